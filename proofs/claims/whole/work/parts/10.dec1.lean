theorem dX0_init_0 : decode cX0_init 0 = .ok (.aload_n 0, 1) := by decide +kernel
theorem dX0_init_1 : decode cX0_init 1 = .ok (.invokespecial 3, 3) := by decide +kernel
theorem dX0_init_4 : decode cX0_init 4 = .ok (.aload_n 0, 1) := by decide +kernel
theorem dX0_init_5 : decode cX0_init 5 = .ok (.sipush 1200, 3) := by decide +kernel
theorem dX0_init_8 : decode cX0_init 8 = .ok (.newarray .int, 2) := by decide +kernel
theorem dX0_init_10 : decode cX0_init 10 = .ok (.putfield 11, 3) := by decide +kernel
theorem dX0_init_13 : decode cX0_init 13 = .ok (.aload_n 0, 1) := by decide +kernel
theorem dX0_init_14 : decode cX0_init 14 = .ok (.sipush 1200, 3) := by decide +kernel
theorem dX0_init_17 : decode cX0_init 17 = .ok (.newarray .long, 2) := by decide +kernel
theorem dX0_init_19 : decode cX0_init 19 = .ok (.putfield 15, 3) := by decide +kernel
theorem dX0_init_22 : decode cX0_init 22 = .ok (.aload_n 0, 1) := by decide +kernel
theorem dX0_init_23 : decode cX0_init 23 = .ok (.sipush 1200, 3) := by decide +kernel
theorem dX0_init_26 : decode cX0_init 26 = .ok (.newarray .int, 2) := by decide +kernel
theorem dX0_init_28 : decode cX0_init 28 = .ok (.putfield 19, 3) := by decide +kernel
theorem dX0_init_31 : decode cX0_init 31 = .ok (.aload_n 0, 1) := by decide +kernel
theorem dX0_init_32 : decode cX0_init 32 = .ok (.sipush 1200, 3) := by decide +kernel
theorem dX0_init_35 : decode cX0_init 35 = .ok (.newarray .int, 2) := by decide +kernel
theorem dX0_init_37 : decode cX0_init 37 = .ok (.putfield 22, 3) := by decide +kernel
theorem dX0_init_40 : decode cX0_init 40 = .ok (.aload_n 0, 1) := by decide +kernel
theorem dX0_init_41 : decode cX0_init 41 = .ok (.sipush 1200, 3) := by decide +kernel
theorem dX0_init_44 : decode cX0_init 44 = .ok (.newarray .int, 2) := by decide +kernel
theorem dX0_init_46 : decode cX0_init 46 = .ok (.putfield 25, 3) := by decide +kernel
theorem dX0_init_49 : decode cX0_init 49 = .ok (.aload_n 0, 1) := by decide +kernel
theorem dX0_init_50 : decode cX0_init 50 = .ok (.sipush 1200, 3) := by decide +kernel
theorem dX0_init_53 : decode cX0_init 53 = .ok (.newarray .int, 2) := by decide +kernel
theorem dX0_init_55 : decode cX0_init 55 = .ok (.putfield 28, 3) := by decide +kernel
theorem dX0_init_58 : decode cX0_init 58 = .ok (.aload_n 0, 1) := by decide +kernel
theorem dX0_init_59 : decode cX0_init 59 = .ok (.sipush 600, 3) := by decide +kernel
theorem dX0_init_62 : decode cX0_init 62 = .ok (.newarray .int, 2) := by decide +kernel
theorem dX0_init_64 : decode cX0_init 64 = .ok (.putfield 31, 3) := by decide +kernel
theorem dX0_init_67 : decode cX0_init 67 = .ok (.return_, 1) := by decide +kernel
theorem dX0_clear_0 : decode cX0_clear 0 = .ok (.aload_n 0, 1) := by decide +kernel
theorem dX0_clear_1 : decode cX0_clear 1 = .ok (.iconst 0, 1) := by decide +kernel
theorem dX0_clear_2 : decode cX0_clear 2 = .ok (.putfield 34, 3) := by decide +kernel
theorem dX0_clear_5 : decode cX0_clear 5 = .ok (.return_, 1) := by decide +kernel
theorem dX0_has_0 : decode cX0_has 0 = .ok (.iload_n 1, 1) := by decide +kernel
theorem dX0_has_1 : decode cX0_has 1 = .ok (.ifCond .lt 15, 3) := by decide +kernel
theorem dX0_has_4 : decode cX0_has 4 = .ok (.iload_n 1, 1) := by decide +kernel
theorem dX0_has_5 : decode cX0_has 5 = .ok (.aload_n 0, 1) := by decide +kernel
theorem dX0_has_6 : decode cX0_has 6 = .ok (.getfield 34, 3) := by decide +kernel
theorem dX0_has_9 : decode cX0_has 9 = .ok (.if_icmp .ge 7, 3) := by decide +kernel
theorem dX0_has_12 : decode cX0_has 12 = .ok (.iconst 1, 1) := by decide +kernel
theorem dX0_has_13 : decode cX0_has 13 = .ok (.goto 4, 3) := by decide +kernel
theorem dX0_has_16 : decode cX0_has 16 = .ok (.iconst 0, 1) := by decide +kernel
theorem dX0_has_17 : decode cX0_has 17 = .ok (.ireturn, 1) := by decide +kernel
theorem dX0_isNumber_0 : decode cX0_isNumber 0 = .ok (.aload_n 0, 1) := by decide +kernel
theorem dX0_isNumber_1 : decode cX0_isNumber 1 = .ok (.iload_n 1, 1) := by decide +kernel
theorem dX0_isNumber_2 : decode cX0_isNumber 2 = .ok (.invokevirtual 38, 3) := by decide +kernel
theorem dX0_isNumber_5 : decode cX0_isNumber 5 = .ok (.ifCond .eq 16, 3) := by decide +kernel
theorem dX0_isNumber_8 : decode cX0_isNumber 8 = .ok (.aload_n 0, 1) := by decide +kernel
theorem dX0_isNumber_9 : decode cX0_isNumber 9 = .ok (.getfield 11, 3) := by decide +kernel
theorem dX0_isNumber_12 : decode cX0_isNumber 12 = .ok (.iload_n 1, 1) := by decide +kernel
theorem dX0_isNumber_13 : decode cX0_isNumber 13 = .ok (.iaload, 1) := by decide +kernel
theorem dX0_isNumber_14 : decode cX0_isNumber 14 = .ok (.ifCond .ne 7, 3) := by decide +kernel
theorem dX0_isNumber_17 : decode cX0_isNumber 17 = .ok (.iconst 1, 1) := by decide +kernel
theorem dX0_isNumber_18 : decode cX0_isNumber 18 = .ok (.goto 4, 3) := by decide +kernel
theorem dX0_isNumber_21 : decode cX0_isNumber 21 = .ok (.iconst 0, 1) := by decide +kernel
theorem dX0_isNumber_22 : decode cX0_isNumber 22 = .ok (.ireturn, 1) := by decide +kernel
theorem dX0_isNumber__0 : decode cX0_isNumber_ 0 = .ok (.aload_n 0, 1) := by decide +kernel
theorem dX0_isNumber__1 : decode cX0_isNumber_ 1 = .ok (.iload_n 1, 1) := by decide +kernel
theorem dX0_isNumber__2 : decode cX0_isNumber_ 2 = .ok (.invokevirtual 42, 3) := by decide +kernel
theorem dX0_isNumber__5 : decode cX0_isNumber_ 5 = .ok (.ifCond .eq 18, 3) := by decide +kernel
theorem dX0_isNumber__8 : decode cX0_isNumber_ 8 = .ok (.aload_n 0, 1) := by decide +kernel
theorem dX0_isNumber__9 : decode cX0_isNumber_ 9 = .ok (.getfield 15, 3) := by decide +kernel
theorem dX0_isNumber__12 : decode cX0_isNumber_ 12 = .ok (.iload_n 1, 1) := by decide +kernel
theorem dX0_isNumber__13 : decode cX0_isNumber_ 13 = .ok (.laload, 1) := by decide +kernel
theorem dX0_isNumber__14 : decode cX0_isNumber_ 14 = .ok (.lload_n 2, 1) := by decide +kernel
theorem dX0_isNumber__15 : decode cX0_isNumber_ 15 = .ok (.lcmp, 1) := by decide +kernel
theorem dX0_isNumber__16 : decode cX0_isNumber_ 16 = .ok (.ifCond .ne 7, 3) := by decide +kernel
theorem dX0_isNumber__19 : decode cX0_isNumber_ 19 = .ok (.iconst 1, 1) := by decide +kernel
theorem dX0_isNumber__20 : decode cX0_isNumber_ 20 = .ok (.goto 4, 3) := by decide +kernel
theorem dX0_isNumber__23 : decode cX0_isNumber_ 23 = .ok (.iconst 0, 1) := by decide +kernel
theorem dX0_isNumber__24 : decode cX0_isNumber_ 24 = .ok (.ireturn, 1) := by decide +kernel
theorem dX0_kind_0 : decode cX0_kind 0 = .ok (.aload_n 0, 1) := by decide +kernel
theorem dX0_kind_1 : decode cX0_kind 1 = .ok (.iload_n 1, 1) := by decide +kernel
theorem dX0_kind_2 : decode cX0_kind 2 = .ok (.invokevirtual 38, 3) := by decide +kernel
theorem dX0_kind_5 : decode cX0_kind 5 = .ok (.ifCond .eq 12, 3) := by decide +kernel
theorem dX0_kind_8 : decode cX0_kind 8 = .ok (.aload_n 0, 1) := by decide +kernel
theorem dX0_kind_9 : decode cX0_kind 9 = .ok (.getfield 11, 3) := by decide +kernel
theorem dX0_kind_12 : decode cX0_kind 12 = .ok (.iload_n 1, 1) := by decide +kernel
theorem dX0_kind_13 : decode cX0_kind 13 = .ok (.iaload, 1) := by decide +kernel
theorem dX0_kind_14 : decode cX0_kind 14 = .ok (.goto 4, 3) := by decide +kernel
theorem dX0_kind_17 : decode cX0_kind 17 = .ok (.iconst 0, 1) := by decide +kernel
theorem dX0_kind_18 : decode cX0_kind 18 = .ok (.ireturn, 1) := by decide +kernel
theorem dX0_number_0 : decode cX0_number 0 = .ok (.aload_n 0, 1) := by decide +kernel
theorem dX0_number_1 : decode cX0_number 1 = .ok (.iload_n 1, 1) := by decide +kernel
theorem dX0_number_2 : decode cX0_number 2 = .ok (.invokevirtual 38, 3) := by decide +kernel
theorem dX0_number_5 : decode cX0_number 5 = .ok (.ifCond .eq 12, 3) := by decide +kernel
theorem dX0_number_8 : decode cX0_number 8 = .ok (.aload_n 0, 1) := by decide +kernel
theorem dX0_number_9 : decode cX0_number 9 = .ok (.getfield 15, 3) := by decide +kernel
theorem dX0_number_12 : decode cX0_number 12 = .ok (.iload_n 1, 1) := by decide +kernel
theorem dX0_number_13 : decode cX0_number 13 = .ok (.laload, 1) := by decide +kernel
theorem dX0_number_14 : decode cX0_number 14 = .ok (.goto 4, 3) := by decide +kernel
theorem dX0_number_17 : decode cX0_number 17 = .ok (.lconst 0, 1) := by decide +kernel
theorem dX0_number_18 : decode cX0_number 18 = .ok (.lreturn, 1) := by decide +kernel
theorem dX0_first_0 : decode cX0_first 0 = .ok (.aload_n 0, 1) := by decide +kernel
theorem dX0_first_1 : decode cX0_first 1 = .ok (.iload_n 1, 1) := by decide +kernel
theorem dX0_first_2 : decode cX0_first 2 = .ok (.invokevirtual 38, 3) := by decide +kernel
theorem dX0_first_5 : decode cX0_first 5 = .ok (.ifCond .eq 12, 3) := by decide +kernel
theorem dX0_first_8 : decode cX0_first 8 = .ok (.aload_n 0, 1) := by decide +kernel
theorem dX0_first_9 : decode cX0_first 9 = .ok (.getfield 19, 3) := by decide +kernel
theorem dX0_first_12 : decode cX0_first 12 = .ok (.iload_n 1, 1) := by decide +kernel
theorem dX0_first_13 : decode cX0_first 13 = .ok (.iaload, 1) := by decide +kernel
theorem dX0_first_14 : decode cX0_first 14 = .ok (.goto 4, 3) := by decide +kernel
theorem dX0_first_17 : decode cX0_first 17 = .ok (.iconst (-1), 1) := by decide +kernel
theorem dX0_first_18 : decode cX0_first 18 = .ok (.ireturn, 1) := by decide +kernel
theorem dX0_nodes_0 : decode cX0_nodes 0 = .ok (.iload_n 1, 1) := by decide +kernel
theorem dX0_nodes_1 : decode cX0_nodes 1 = .ok (.ifCond .lt 20, 3) := by decide +kernel
theorem dX0_nodes_4 : decode cX0_nodes 4 = .ok (.iload_n 1, 1) := by decide +kernel
theorem dX0_nodes_5 : decode cX0_nodes 5 = .ok (.aload_n 0, 1) := by decide +kernel
theorem dX0_nodes_6 : decode cX0_nodes 6 = .ok (.getfield 34, 3) := by decide +kernel
theorem dX0_nodes_9 : decode cX0_nodes 9 = .ok (.if_icmp .ge 12, 3) := by decide +kernel
theorem dX0_nodes_12 : decode cX0_nodes 12 = .ok (.aload_n 0, 1) := by decide +kernel
theorem dX0_nodes_13 : decode cX0_nodes 13 = .ok (.getfield 28, 3) := by decide +kernel
theorem dX0_nodes_16 : decode cX0_nodes 16 = .ok (.iload_n 1, 1) := by decide +kernel
theorem dX0_nodes_17 : decode cX0_nodes 17 = .ok (.iaload, 1) := by decide +kernel
theorem dX0_nodes_18 : decode cX0_nodes 18 = .ok (.goto 4, 3) := by decide +kernel
theorem dX0_nodes_21 : decode cX0_nodes 21 = .ok (.iconst 0, 1) := by decide +kernel
theorem dX0_nodes_22 : decode cX0_nodes 22 = .ok (.ireturn, 1) := by decide +kernel
theorem dX0_make_0 : decode cX0_make 0 = .ok (.aload_n 0, 1) := by decide +kernel
theorem dX0_make_1 : decode cX0_make 1 = .ok (.getfield 34, 3) := by decide +kernel
theorem dX0_make_4 : decode cX0_make 4 = .ok (.sipush 1200, 3) := by decide +kernel
theorem dX0_make_7 : decode cX0_make 7 = .ok (.if_icmp .lt 5, 3) := by decide +kernel
theorem dX0_make_10 : decode cX0_make 10 = .ok (.iconst (-1), 1) := by decide +kernel
theorem dX0_make_11 : decode cX0_make 11 = .ok (.ireturn, 1) := by decide +kernel
theorem dX0_make_12 : decode cX0_make 12 = .ok (.aload_n 0, 1) := by decide +kernel
theorem dX0_make_13 : decode cX0_make 13 = .ok (.getfield 11, 3) := by decide +kernel
theorem dX0_make_16 : decode cX0_make 16 = .ok (.aload_n 0, 1) := by decide +kernel
theorem dX0_make_17 : decode cX0_make 17 = .ok (.getfield 34, 3) := by decide +kernel
theorem dX0_make_20 : decode cX0_make 20 = .ok (.iload_n 1, 1) := by decide +kernel
theorem dX0_make_21 : decode cX0_make 21 = .ok (.iastore, 1) := by decide +kernel
theorem dX0_make_22 : decode cX0_make 22 = .ok (.aload_n 0, 1) := by decide +kernel
theorem dX0_make_23 : decode cX0_make 23 = .ok (.getfield 15, 3) := by decide +kernel
theorem dX0_make_26 : decode cX0_make 26 = .ok (.aload_n 0, 1) := by decide +kernel
theorem dX0_make_27 : decode cX0_make 27 = .ok (.getfield 34, 3) := by decide +kernel
theorem dX0_make_30 : decode cX0_make 30 = .ok (.lload_n 2, 1) := by decide +kernel
theorem dX0_make_31 : decode cX0_make 31 = .ok (.lastore, 1) := by decide +kernel
theorem dX0_make_32 : decode cX0_make 32 = .ok (.aload_n 0, 1) := by decide +kernel
theorem dX0_make_33 : decode cX0_make 33 = .ok (.getfield 19, 3) := by decide +kernel
theorem dX0_make_36 : decode cX0_make 36 = .ok (.aload_n 0, 1) := by decide +kernel
theorem dX0_make_37 : decode cX0_make 37 = .ok (.getfield 34, 3) := by decide +kernel
theorem dX0_make_40 : decode cX0_make 40 = .ok (.iload 4, 2) := by decide +kernel
theorem dX0_make_42 : decode cX0_make 42 = .ok (.iastore, 1) := by decide +kernel
theorem dX0_make_43 : decode cX0_make 43 = .ok (.aload_n 0, 1) := by decide +kernel
theorem dX0_make_44 : decode cX0_make 44 = .ok (.getfield 22, 3) := by decide +kernel
theorem dX0_make_47 : decode cX0_make 47 = .ok (.aload_n 0, 1) := by decide +kernel
theorem dX0_make_48 : decode cX0_make 48 = .ok (.getfield 34, 3) := by decide +kernel
theorem dX0_make_51 : decode cX0_make 51 = .ok (.iload 5, 2) := by decide +kernel
theorem dX0_make_53 : decode cX0_make 53 = .ok (.iastore, 1) := by decide +kernel
theorem dX0_make_54 : decode cX0_make 54 = .ok (.aload_n 0, 1) := by decide +kernel
theorem dX0_make_55 : decode cX0_make 55 = .ok (.getfield 25, 3) := by decide +kernel
theorem dX0_make_58 : decode cX0_make 58 = .ok (.aload_n 0, 1) := by decide +kernel
theorem dX0_make_59 : decode cX0_make 59 = .ok (.getfield 34, 3) := by decide +kernel
theorem dX0_make_62 : decode cX0_make 62 = .ok (.iload 6, 2) := by decide +kernel
theorem dX0_make_64 : decode cX0_make 64 = .ok (.iastore, 1) := by decide +kernel
theorem dX0_make_65 : decode cX0_make 65 = .ok (.aload_n 0, 1) := by decide +kernel
theorem dX0_make_66 : decode cX0_make 66 = .ok (.getfield 28, 3) := by decide +kernel
theorem dX0_make_69 : decode cX0_make 69 = .ok (.aload_n 0, 1) := by decide +kernel
theorem dX0_make_70 : decode cX0_make 70 = .ok (.getfield 34, 3) := by decide +kernel
theorem dX0_make_73 : decode cX0_make 73 = .ok (.ldc 45, 2) := by decide +kernel
theorem dX0_make_75 : decode cX0_make 75 = .ok (.iconst 1, 1) := by decide +kernel
theorem dX0_make_76 : decode cX0_make 76 = .ok (.aload_n 0, 1) := by decide +kernel
theorem dX0_make_77 : decode cX0_make 77 = .ok (.iload 4, 2) := by decide +kernel
theorem dX0_make_79 : decode cX0_make 79 = .ok (.invokevirtual 46, 3) := by decide +kernel
theorem dX0_make_82 : decode cX0_make 82 = .ok (.iadd, 1) := by decide +kernel
theorem dX0_make_83 : decode cX0_make 83 = .ok (.aload_n 0, 1) := by decide +kernel
theorem dX0_make_84 : decode cX0_make 84 = .ok (.iload 5, 2) := by decide +kernel
theorem dX0_make_86 : decode cX0_make 86 = .ok (.invokevirtual 46, 3) := by decide +kernel
theorem dX0_make_89 : decode cX0_make 89 = .ok (.iadd, 1) := by decide +kernel
theorem dX0_make_90 : decode cX0_make 90 = .ok (.aload_n 0, 1) := by decide +kernel
theorem dX0_make_91 : decode cX0_make 91 = .ok (.iload 6, 2) := by decide +kernel
theorem dX0_make_93 : decode cX0_make 93 = .ok (.invokevirtual 46, 3) := by decide +kernel
theorem dX0_make_96 : decode cX0_make 96 = .ok (.iadd, 1) := by decide +kernel
theorem dX0_make_97 : decode cX0_make 97 = .ok (.invokestatic 50, 3) := by decide +kernel
theorem dX0_make_100 : decode cX0_make 100 = .ok (.iastore, 1) := by decide +kernel
theorem dX0_make_101 : decode cX0_make 101 = .ok (.aload_n 0, 1) := by decide +kernel
theorem dX0_make_102 : decode cX0_make 102 = .ok (.dup, 1) := by decide +kernel
theorem dX0_make_103 : decode cX0_make 103 = .ok (.getfield 34, 3) := by decide +kernel
theorem dX0_make_106 : decode cX0_make 106 = .ok (.iconst 1, 1) := by decide +kernel
theorem dX0_make_107 : decode cX0_make 107 = .ok (.iadd, 1) := by decide +kernel
theorem dX0_make_108 : decode cX0_make 108 = .ok (.putfield 34, 3) := by decide +kernel
theorem dX0_make_111 : decode cX0_make 111 = .ok (.aload_n 0, 1) := by decide +kernel
theorem dX0_make_112 : decode cX0_make 112 = .ok (.getfield 34, 3) := by decide +kernel
theorem dX0_make_115 : decode cX0_make 115 = .ok (.iconst 1, 1) := by decide +kernel
theorem dX0_make_116 : decode cX0_make 116 = .ok (.isub, 1) := by decide +kernel
theorem dX0_make_117 : decode cX0_make 117 = .ok (.ireturn, 1) := by decide +kernel
theorem dX0_leaf_0 : decode cX0_leaf 0 = .ok (.aload_n 0, 1) := by decide +kernel
theorem dX0_leaf_1 : decode cX0_leaf 1 = .ok (.iload_n 1, 1) := by decide +kernel
theorem dX0_leaf_2 : decode cX0_leaf 2 = .ok (.lload_n 2, 1) := by decide +kernel
theorem dX0_leaf_3 : decode cX0_leaf 3 = .ok (.iconst (-1), 1) := by decide +kernel
theorem dX0_leaf_4 : decode cX0_leaf 4 = .ok (.iconst (-1), 1) := by decide +kernel
theorem dX0_leaf_5 : decode cX0_leaf 5 = .ok (.iconst (-1), 1) := by decide +kernel
theorem dX0_leaf_6 : decode cX0_leaf 6 = .ok (.invokevirtual 56, 3) := by decide +kernel
theorem dX0_leaf_9 : decode cX0_leaf 9 = .ok (.ireturn, 1) := by decide +kernel
theorem dX0_pair_0 : decode cX0_pair 0 = .ok (.aload_n 0, 1) := by decide +kernel
theorem dX0_pair_1 : decode cX0_pair 1 = .ok (.iload_n 1, 1) := by decide +kernel
theorem dX0_pair_2 : decode cX0_pair 2 = .ok (.lconst 0, 1) := by decide +kernel
theorem dX0_pair_3 : decode cX0_pair 3 = .ok (.iload_n 2, 1) := by decide +kernel
theorem dX0_pair_4 : decode cX0_pair 4 = .ok (.iload_n 3, 1) := by decide +kernel
theorem dX0_pair_5 : decode cX0_pair 5 = .ok (.iconst (-1), 1) := by decide +kernel
theorem dX0_pair_6 : decode cX0_pair 6 = .ok (.invokevirtual 56, 3) := by decide +kernel
theorem dX0_pair_9 : decode cX0_pair 9 = .ok (.ireturn, 1) := by decide +kernel
theorem dX0_await_0 : decode cX0_await 0 = .ok (.aload_n 0, 1) := by decide +kernel
theorem dX0_await_1 : decode cX0_await 1 = .ok (.iload_n 1, 1) := by decide +kernel
theorem dX0_await_2 : decode cX0_await 2 = .ok (.invokevirtual 38, 3) := by decide +kernel
theorem dX0_await_5 : decode cX0_await 5 = .ok (.ifCond .eq 35, 3) := by decide +kernel
theorem dX0_await_8 : decode cX0_await 8 = .ok (.aload_n 0, 1) := by decide +kernel
theorem dX0_await_9 : decode cX0_await 9 = .ok (.getfield 60, 3) := by decide +kernel
theorem dX0_await_12 : decode cX0_await 12 = .ok (.aload_n 0, 1) := by decide +kernel
theorem dX0_await_13 : decode cX0_await 13 = .ok (.getfield 31, 3) := by decide +kernel
theorem dX0_await_16 : decode cX0_await 16 = .ok (.arraylength, 1) := by decide +kernel
theorem dX0_await_17 : decode cX0_await 17 = .ok (.if_icmp .ge 23, 3) := by decide +kernel
theorem dX0_await_20 : decode cX0_await 20 = .ok (.aload_n 0, 1) := by decide +kernel
theorem dX0_await_21 : decode cX0_await 21 = .ok (.getfield 31, 3) := by decide +kernel
theorem dX0_await_24 : decode cX0_await 24 = .ok (.aload_n 0, 1) := by decide +kernel
theorem dX0_await_25 : decode cX0_await 25 = .ok (.getfield 60, 3) := by decide +kernel
theorem dX0_await_28 : decode cX0_await 28 = .ok (.iload_n 1, 1) := by decide +kernel
theorem dX0_await_29 : decode cX0_await 29 = .ok (.iastore, 1) := by decide +kernel
theorem dX0_await_30 : decode cX0_await 30 = .ok (.aload_n 0, 1) := by decide +kernel
theorem dX0_await_31 : decode cX0_await 31 = .ok (.dup, 1) := by decide +kernel
theorem dX0_await_32 : decode cX0_await 32 = .ok (.getfield 60, 3) := by decide +kernel
theorem dX0_await_35 : decode cX0_await 35 = .ok (.iconst 1, 1) := by decide +kernel
theorem dX0_await_36 : decode cX0_await 36 = .ok (.iadd, 1) := by decide +kernel
theorem dX0_await_37 : decode cX0_await 37 = .ok (.putfield 60, 3) := by decide +kernel
theorem dX0_await_40 : decode cX0_await 40 = .ok (.return_, 1) := by decide +kernel
theorem dX0_settle_0 : decode cX0_settle 0 = .ok (.aload_n 2, 1) := by decide +kernel
theorem dX0_settle_1 : decode cX0_settle 1 = .ok (.invokevirtual 63, 3) := by decide +kernel
theorem dX0_settle_4 : decode cX0_settle 4 = .ok (.aload_n 0, 1) := by decide +kernel
theorem dX0_settle_5 : decode cX0_settle 5 = .ok (.iconst 0, 1) := by decide +kernel
theorem dX0_settle_6 : decode cX0_settle 6 = .ok (.putfield 60, 3) := by decide +kernel
theorem dX0_settle_9 : decode cX0_settle 9 = .ok (.aload_n 0, 1) := by decide +kernel
theorem dX0_settle_10 : decode cX0_settle 10 = .ok (.iload_n 1, 1) := by decide +kernel
theorem dX0_settle_11 : decode cX0_settle 11 = .ok (.invokevirtual 68, 3) := by decide +kernel
theorem dX0_settle_14 : decode cX0_settle 14 = .ok (.iconst 0, 1) := by decide +kernel
theorem dX0_settle_15 : decode cX0_settle 15 = .ok (.istore_n 3, 1) := by decide +kernel
theorem dX0_settle_16 : decode cX0_settle 16 = .ok (.iload_n 3, 1) := by decide +kernel
theorem dX0_settle_17 : decode cX0_settle 17 = .ok (.sipush 200, 3) := by decide +kernel
theorem dX0_settle_20 : decode cX0_settle 20 = .ok (.if_icmp .ge 95, 3) := by decide +kernel
theorem dX0_settle_23 : decode cX0_settle 23 = .ok (.aload_n 0, 1) := by decide +kernel
theorem dX0_settle_24 : decode cX0_settle 24 = .ok (.getfield 60, 3) := by decide +kernel
theorem dX0_settle_27 : decode cX0_settle 27 = .ok (.ifCond .le 88, 3) := by decide +kernel
theorem dX0_settle_30 : decode cX0_settle 30 = .ok (.aload_n 0, 1) := by decide +kernel
theorem dX0_settle_31 : decode cX0_settle 31 = .ok (.dup, 1) := by decide +kernel
theorem dX0_settle_32 : decode cX0_settle 32 = .ok (.getfield 60, 3) := by decide +kernel
theorem dX0_settle_35 : decode cX0_settle 35 = .ok (.iconst 1, 1) := by decide +kernel
theorem dX0_settle_36 : decode cX0_settle 36 = .ok (.isub, 1) := by decide +kernel
theorem dX0_settle_37 : decode cX0_settle 37 = .ok (.putfield 60, 3) := by decide +kernel
theorem dX0_settle_40 : decode cX0_settle 40 = .ok (.aload_n 0, 1) := by decide +kernel
theorem dX0_settle_41 : decode cX0_settle 41 = .ok (.getfield 31, 3) := by decide +kernel
theorem dX0_settle_44 : decode cX0_settle 44 = .ok (.aload_n 0, 1) := by decide +kernel
theorem dX0_settle_45 : decode cX0_settle 45 = .ok (.getfield 60, 3) := by decide +kernel
theorem dX0_settle_48 : decode cX0_settle 48 = .ok (.iaload, 1) := by decide +kernel
theorem dX0_settle_49 : decode cX0_settle 49 = .ok (.istore 4, 2) := by decide +kernel
theorem dX0_settle_51 : decode cX0_settle 51 = .ok (.aload_n 2, 1) := by decide +kernel
theorem dX0_settle_52 : decode cX0_settle 52 = .ok (.aload_n 0, 1) := by decide +kernel
theorem dX0_settle_53 : decode cX0_settle 53 = .ok (.getfield 11, 3) := by decide +kernel
theorem dX0_settle_56 : decode cX0_settle 56 = .ok (.iload 4, 2) := by decide +kernel
theorem dX0_settle_58 : decode cX0_settle 58 = .ok (.iaload, 1) := by decide +kernel
theorem dX0_settle_59 : decode cX0_settle 59 = .ok (.aload_n 0, 1) := by decide +kernel
theorem dX0_settle_60 : decode cX0_settle 60 = .ok (.getfield 15, 3) := by decide +kernel
theorem dX0_settle_63 : decode cX0_settle 63 = .ok (.iload 4, 2) := by decide +kernel
theorem dX0_settle_65 : decode cX0_settle 65 = .ok (.laload, 1) := by decide +kernel
theorem dX0_settle_66 : decode cX0_settle 66 = .ok (.aload_n 0, 1) := by decide +kernel
theorem dX0_settle_67 : decode cX0_settle 67 = .ok (.getfield 28, 3) := by decide +kernel
theorem dX0_settle_70 : decode cX0_settle 70 = .ok (.iload 4, 2) := by decide +kernel
theorem dX0_settle_72 : decode cX0_settle 72 = .ok (.iaload, 1) := by decide +kernel
theorem dX0_settle_73 : decode cX0_settle 73 = .ok (.invokevirtual 72, 3) := by decide +kernel
theorem dX0_settle_76 : decode cX0_settle 76 = .ok (.aload_n 0, 1) := by decide +kernel
theorem dX0_settle_77 : decode cX0_settle 77 = .ok (.aload_n 0, 1) := by decide +kernel
theorem dX0_settle_78 : decode cX0_settle 78 = .ok (.getfield 25, 3) := by decide +kernel
theorem dX0_settle_81 : decode cX0_settle 81 = .ok (.iload 4, 2) := by decide +kernel
theorem dX0_settle_83 : decode cX0_settle 83 = .ok (.iaload, 1) := by decide +kernel
theorem dX0_settle_84 : decode cX0_settle 84 = .ok (.invokevirtual 68, 3) := by decide +kernel
theorem dX0_settle_87 : decode cX0_settle 87 = .ok (.aload_n 0, 1) := by decide +kernel
theorem dX0_settle_88 : decode cX0_settle 88 = .ok (.aload_n 0, 1) := by decide +kernel
theorem dX0_settle_89 : decode cX0_settle 89 = .ok (.getfield 22, 3) := by decide +kernel
theorem dX0_settle_92 : decode cX0_settle 92 = .ok (.iload 4, 2) := by decide +kernel
theorem dX0_settle_94 : decode cX0_settle 94 = .ok (.iaload, 1) := by decide +kernel
theorem dX0_settle_95 : decode cX0_settle 95 = .ok (.invokevirtual 68, 3) := by decide +kernel
theorem dX0_settle_98 : decode cX0_settle 98 = .ok (.aload_n 0, 1) := by decide +kernel
theorem dX0_settle_99 : decode cX0_settle 99 = .ok (.aload_n 0, 1) := by decide +kernel
theorem dX0_settle_100 : decode cX0_settle 100 = .ok (.getfield 19, 3) := by decide +kernel
theorem dX0_settle_103 : decode cX0_settle 103 = .ok (.iload 4, 2) := by decide +kernel
theorem dX0_settle_105 : decode cX0_settle 105 = .ok (.iaload, 1) := by decide +kernel
theorem dX0_settle_106 : decode cX0_settle 106 = .ok (.invokevirtual 68, 3) := by decide +kernel
theorem dX0_settle_109 : decode cX0_settle 109 = .ok (.iinc 3 1, 3) := by decide +kernel
theorem dX0_settle_112 : decode cX0_settle 112 = .ok (.goto (-96), 3) := by decide +kernel
theorem dX0_settle_115 : decode cX0_settle 115 = .ok (.return_, 1) := by decide +kernel
theorem dX1_init_0 : decode cX1_init 0 = .ok (.aload_n 0, 1) := by decide +kernel
theorem dX1_init_1 : decode cX1_init 1 = .ok (.invokespecial 3, 3) := by decide +kernel
theorem dX1_init_4 : decode cX1_init 4 = .ok (.aload_n 0, 1) := by decide +kernel
theorem dX1_init_5 : decode cX1_init 5 = .ok (.sipush 200, 3) := by decide +kernel
theorem dX1_init_8 : decode cX1_init 8 = .ok (.newarray .int, 2) := by decide +kernel
theorem dX1_init_10 : decode cX1_init 10 = .ok (.putfield 9, 3) := by decide +kernel
theorem dX1_init_13 : decode cX1_init 13 = .ok (.aload_n 0, 1) := by decide +kernel
theorem dX1_init_14 : decode cX1_init 14 = .ok (.sipush 200, 3) := by decide +kernel
theorem dX1_init_17 : decode cX1_init 17 = .ok (.newarray .long, 2) := by decide +kernel
theorem dX1_init_19 : decode cX1_init 19 = .ok (.putfield 15, 3) := by decide +kernel
theorem dX1_init_22 : decode cX1_init 22 = .ok (.aload_n 0, 1) := by decide +kernel
theorem dX1_init_23 : decode cX1_init 23 = .ok (.sipush 200, 3) := by decide +kernel
theorem dX1_init_26 : decode cX1_init 26 = .ok (.newarray .int, 2) := by decide +kernel
theorem dX1_init_28 : decode cX1_init 28 = .ok (.putfield 19, 3) := by decide +kernel
theorem dX1_init_31 : decode cX1_init 31 = .ok (.return_, 1) := by decide +kernel
theorem dX1_size_0 : decode cX1_size 0 = .ok (.aload_n 0, 1) := by decide +kernel
theorem dX1_size_1 : decode cX1_size 1 = .ok (.getfield 22, 3) := by decide +kernel
theorem dX1_size_4 : decode cX1_size 4 = .ok (.ireturn, 1) := by decide +kernel
theorem dX1_isEmpty_0 : decode cX1_isEmpty 0 = .ok (.aload_n 0, 1) := by decide +kernel
theorem dX1_isEmpty_1 : decode cX1_isEmpty 1 = .ok (.getfield 22, 3) := by decide +kernel
theorem dX1_isEmpty_4 : decode cX1_isEmpty 4 = .ok (.ifCond .ne 7, 3) := by decide +kernel
theorem dX1_isEmpty_7 : decode cX1_isEmpty 7 = .ok (.iconst 1, 1) := by decide +kernel
theorem dX1_isEmpty_8 : decode cX1_isEmpty 8 = .ok (.goto 4, 3) := by decide +kernel
theorem dX1_isEmpty_11 : decode cX1_isEmpty 11 = .ok (.iconst 0, 1) := by decide +kernel
theorem dX1_isEmpty_12 : decode cX1_isEmpty 12 = .ok (.ireturn, 1) := by decide +kernel
theorem dX1_has_0 : decode cX1_has 0 = .ok (.iload_n 1, 1) := by decide +kernel
theorem dX1_has_1 : decode cX1_has 1 = .ok (.ifCond .lt 15, 3) := by decide +kernel
theorem dX1_has_4 : decode cX1_has 4 = .ok (.iload_n 1, 1) := by decide +kernel
theorem dX1_has_5 : decode cX1_has 5 = .ok (.aload_n 0, 1) := by decide +kernel
theorem dX1_has_6 : decode cX1_has 6 = .ok (.getfield 22, 3) := by decide +kernel
theorem dX1_has_9 : decode cX1_has 9 = .ok (.if_icmp .ge 7, 3) := by decide +kernel
theorem dX1_has_12 : decode cX1_has 12 = .ok (.iconst 1, 1) := by decide +kernel
theorem dX1_has_13 : decode cX1_has 13 = .ok (.goto 4, 3) := by decide +kernel
theorem dX1_has_16 : decode cX1_has 16 = .ok (.iconst 0, 1) := by decide +kernel
theorem dX1_has_17 : decode cX1_has 17 = .ok (.ireturn, 1) := by decide +kernel
theorem dX1_kind_0 : decode cX1_kind 0 = .ok (.aload_n 0, 1) := by decide +kernel
theorem dX1_kind_1 : decode cX1_kind 1 = .ok (.iload_n 1, 1) := by decide +kernel
theorem dX1_kind_2 : decode cX1_kind 2 = .ok (.invokevirtual 26, 3) := by decide +kernel
theorem dX1_kind_5 : decode cX1_kind 5 = .ok (.ifCond .eq 12, 3) := by decide +kernel
theorem dX1_kind_8 : decode cX1_kind 8 = .ok (.aload_n 0, 1) := by decide +kernel
theorem dX1_kind_9 : decode cX1_kind 9 = .ok (.getfield 9, 3) := by decide +kernel
theorem dX1_kind_12 : decode cX1_kind 12 = .ok (.iload_n 1, 1) := by decide +kernel
theorem dX1_kind_13 : decode cX1_kind 13 = .ok (.iaload, 1) := by decide +kernel
theorem dX1_kind_14 : decode cX1_kind 14 = .ok (.goto 4, 3) := by decide +kernel
theorem dX1_kind_17 : decode cX1_kind 17 = .ok (.iconst 0, 1) := by decide +kernel
theorem dX1_kind_18 : decode cX1_kind 18 = .ok (.ireturn, 1) := by decide +kernel
theorem dX1_number_0 : decode cX1_number 0 = .ok (.aload_n 0, 1) := by decide +kernel
theorem dX1_number_1 : decode cX1_number 1 = .ok (.iload_n 1, 1) := by decide +kernel
theorem dX1_number_2 : decode cX1_number 2 = .ok (.invokevirtual 26, 3) := by decide +kernel
theorem dX1_number_5 : decode cX1_number 5 = .ok (.ifCond .eq 12, 3) := by decide +kernel
theorem dX1_number_8 : decode cX1_number 8 = .ok (.aload_n 0, 1) := by decide +kernel
theorem dX1_number_9 : decode cX1_number 9 = .ok (.getfield 15, 3) := by decide +kernel
theorem dX1_number_12 : decode cX1_number 12 = .ok (.iload_n 1, 1) := by decide +kernel
theorem dX1_number_13 : decode cX1_number 13 = .ok (.laload, 1) := by decide +kernel
theorem dX1_number_14 : decode cX1_number 14 = .ok (.goto 4, 3) := by decide +kernel
theorem dX1_number_17 : decode cX1_number 17 = .ok (.lconst 0, 1) := by decide +kernel
theorem dX1_number_18 : decode cX1_number 18 = .ok (.lreturn, 1) := by decide +kernel
theorem dX1_parts_0 : decode cX1_parts 0 = .ok (.aload_n 0, 1) := by decide +kernel
theorem dX1_parts_1 : decode cX1_parts 1 = .ok (.iload_n 1, 1) := by decide +kernel
theorem dX1_parts_2 : decode cX1_parts 2 = .ok (.invokevirtual 30, 3) := by decide +kernel
theorem dX1_parts_5 : decode cX1_parts 5 = .ok (.istore_n 2, 1) := by decide +kernel
theorem dX1_parts_6 : decode cX1_parts 6 = .ok (.iload_n 2, 1) := by decide +kernel
theorem dX1_parts_7 : decode cX1_parts 7 = .ok (.invokestatic 34, 3) := by decide +kernel
theorem dX1_parts_10 : decode cX1_parts 10 = .ok (.ifCond .eq 11, 3) := by decide +kernel
theorem dX1_parts_13 : decode cX1_parts 13 = .ok (.getstatic 37, 3) := by decide +kernel
theorem dX1_parts_16 : decode cX1_parts 16 = .ok (.iload_n 2, 1) := by decide +kernel
theorem dX1_parts_17 : decode cX1_parts 17 = .ok (.iaload, 1) := by decide +kernel
theorem dX1_parts_18 : decode cX1_parts 18 = .ok (.goto 4, 3) := by decide +kernel
theorem dX1_parts_21 : decode cX1_parts 21 = .ok (.iconst 0, 1) := by decide +kernel
theorem dX1_parts_22 : decode cX1_parts 22 = .ok (.ireturn, 1) := by decide +kernel
theorem dX1_nodes_0 : decode cX1_nodes 0 = .ok (.iload_n 1, 1) := by decide +kernel
theorem dX1_nodes_1 : decode cX1_nodes 1 = .ok (.ifCond .lt 20, 3) := by decide +kernel
theorem dX1_nodes_4 : decode cX1_nodes 4 = .ok (.iload_n 1, 1) := by decide +kernel
theorem dX1_nodes_5 : decode cX1_nodes 5 = .ok (.aload_n 0, 1) := by decide +kernel
theorem dX1_nodes_6 : decode cX1_nodes 6 = .ok (.getfield 22, 3) := by decide +kernel
theorem dX1_nodes_9 : decode cX1_nodes 9 = .ok (.if_icmp .ge 12, 3) := by decide +kernel
theorem dX1_nodes_12 : decode cX1_nodes 12 = .ok (.aload_n 0, 1) := by decide +kernel
theorem dX1_nodes_13 : decode cX1_nodes 13 = .ok (.getfield 19, 3) := by decide +kernel
theorem dX1_nodes_16 : decode cX1_nodes 16 = .ok (.iload_n 1, 1) := by decide +kernel
theorem dX1_nodes_17 : decode cX1_nodes 17 = .ok (.iaload, 1) := by decide +kernel
theorem dX1_nodes_18 : decode cX1_nodes 18 = .ok (.goto 4, 3) := by decide +kernel
theorem dX1_nodes_21 : decode cX1_nodes 21 = .ok (.iconst 0, 1) := by decide +kernel
theorem dX1_nodes_22 : decode cX1_nodes 22 = .ok (.ireturn, 1) := by decide +kernel
theorem dX1_part_0 : decode cX1_part 0 = .ok (.iload_n 1, 1) := by decide +kernel
theorem dX1_part_1 : decode cX1_part 1 = .ok (.iconst 1, 1) := by decide +kernel
theorem dX1_part_2 : decode cX1_part 2 = .ok (.iadd, 1) := by decide +kernel
theorem dX1_part_3 : decode cX1_part 3 = .ok (.istore_n 3, 1) := by decide +kernel
theorem dX1_part_4 : decode cX1_part 4 = .ok (.iconst 0, 1) := by decide +kernel
theorem dX1_part_5 : decode cX1_part 5 = .ok (.istore 4, 2) := by decide +kernel
theorem dX1_part_7 : decode cX1_part 7 = .ok (.iload 4, 2) := by decide +kernel
theorem dX1_part_9 : decode cX1_part 9 = .ok (.iload_n 2, 1) := by decide +kernel
theorem dX1_part_10 : decode cX1_part 10 = .ok (.if_icmp .ge 23, 3) := by decide +kernel
theorem dX1_part_13 : decode cX1_part 13 = .ok (.iload 4, 2) := by decide +kernel
theorem dX1_part_15 : decode cX1_part 15 = .ok (.iconst 3, 1) := by decide +kernel
theorem dX1_part_16 : decode cX1_part 16 = .ok (.if_icmp .ge 17, 3) := by decide +kernel
theorem dX1_part_19 : decode cX1_part 19 = .ok (.iload_n 3, 1) := by decide +kernel
theorem dX1_part_20 : decode cX1_part 20 = .ok (.aload_n 0, 1) := by decide +kernel
theorem dX1_part_21 : decode cX1_part 21 = .ok (.iload_n 3, 1) := by decide +kernel
theorem dX1_part_22 : decode cX1_part 22 = .ok (.invokevirtual 40, 3) := by decide +kernel
theorem dX1_part_25 : decode cX1_part 25 = .ok (.iadd, 1) := by decide +kernel
theorem dX1_part_26 : decode cX1_part 26 = .ok (.istore_n 3, 1) := by decide +kernel
theorem dX1_part_27 : decode cX1_part 27 = .ok (.iinc 4 1, 3) := by decide +kernel
theorem dX1_part_30 : decode cX1_part 30 = .ok (.goto (-23), 3) := by decide +kernel
theorem dX1_part_33 : decode cX1_part 33 = .ok (.iload_n 3, 1) := by decide +kernel
theorem dX1_part_34 : decode cX1_part 34 = .ok (.ireturn, 1) := by decide +kernel
theorem dX1_placeOfNumber_0 : decode cX1_placeOfNumber 0 = .ok (.iconst 0, 1) := by decide +kernel
theorem dX1_placeOfNumber_1 : decode cX1_placeOfNumber 1 = .ok (.istore_n 2, 1) := by decide +kernel
theorem dX1_placeOfNumber_2 : decode cX1_placeOfNumber 2 = .ok (.iconst 0, 1) := by decide +kernel
theorem dX1_placeOfNumber_3 : decode cX1_placeOfNumber 3 = .ok (.istore_n 3, 1) := by decide +kernel
theorem dX1_placeOfNumber_4 : decode cX1_placeOfNumber 4 = .ok (.iload_n 3, 1) := by decide +kernel
theorem dX1_placeOfNumber_5 : decode cX1_placeOfNumber 5 = .ok (.aload_n 0, 1) := by decide +kernel
theorem dX1_placeOfNumber_6 : decode cX1_placeOfNumber 6 = .ok (.getfield 22, 3) := by decide +kernel
theorem dX1_placeOfNumber_9 : decode cX1_placeOfNumber 9 = .ok (.if_icmp .ge 28, 3) := by decide +kernel
theorem dX1_placeOfNumber_12 : decode cX1_placeOfNumber 12 = .ok (.aload_n 0, 1) := by decide +kernel
theorem dX1_placeOfNumber_13 : decode cX1_placeOfNumber 13 = .ok (.getfield 9, 3) := by decide +kernel
theorem dX1_placeOfNumber_16 : decode cX1_placeOfNumber 16 = .ok (.iload_n 3, 1) := by decide +kernel
theorem dX1_placeOfNumber_17 : decode cX1_placeOfNumber 17 = .ok (.iaload, 1) := by decide +kernel
theorem dX1_placeOfNumber_18 : decode cX1_placeOfNumber 18 = .ok (.ifCond .ne 13, 3) := by decide +kernel
theorem dX1_placeOfNumber_21 : decode cX1_placeOfNumber 21 = .ok (.iload_n 2, 1) := by decide +kernel
theorem dX1_placeOfNumber_22 : decode cX1_placeOfNumber 22 = .ok (.iload_n 1, 1) := by decide +kernel
theorem dX1_placeOfNumber_23 : decode cX1_placeOfNumber 23 = .ok (.if_icmp .ne 5, 3) := by decide +kernel
theorem dX1_placeOfNumber_26 : decode cX1_placeOfNumber 26 = .ok (.iload_n 3, 1) := by decide +kernel
theorem dX1_placeOfNumber_27 : decode cX1_placeOfNumber 27 = .ok (.ireturn, 1) := by decide +kernel
theorem dX1_placeOfNumber_28 : decode cX1_placeOfNumber 28 = .ok (.iinc 2 1, 3) := by decide +kernel
theorem dX1_placeOfNumber_31 : decode cX1_placeOfNumber 31 = .ok (.iinc 3 1, 3) := by decide +kernel
theorem dX1_placeOfNumber_34 : decode cX1_placeOfNumber 34 = .ok (.goto (-30), 3) := by decide +kernel
theorem dX1_placeOfNumber_37 : decode cX1_placeOfNumber 37 = .ok (.iconst (-1), 1) := by decide +kernel
theorem dX1_placeOfNumber_38 : decode cX1_placeOfNumber 38 = .ok (.ireturn, 1) := by decide +kernel
theorem dX1_clear_0 : decode cX1_clear 0 = .ok (.aload_n 0, 1) := by decide +kernel
theorem dX1_clear_1 : decode cX1_clear 1 = .ok (.iconst 0, 1) := by decide +kernel
theorem dX1_clear_2 : decode cX1_clear 2 = .ok (.putfield 22, 3) := by decide +kernel
theorem dX1_clear_5 : decode cX1_clear 5 = .ok (.return_, 1) := by decide +kernel
theorem dX1_add_0 : decode cX1_add 0 = .ok (.aload_n 0, 1) := by decide +kernel
theorem dX1_add_1 : decode cX1_add 1 = .ok (.getfield 22, 3) := by decide +kernel
theorem dX1_add_4 : decode cX1_add 4 = .ok (.sipush 200, 3) := by decide +kernel
theorem dX1_add_7 : decode cX1_add 7 = .ok (.if_icmp .ge 44, 3) := by decide +kernel
theorem dX1_add_10 : decode cX1_add 10 = .ok (.aload_n 0, 1) := by decide +kernel
theorem dX1_add_11 : decode cX1_add 11 = .ok (.getfield 9, 3) := by decide +kernel
theorem dX1_add_14 : decode cX1_add 14 = .ok (.aload_n 0, 1) := by decide +kernel
theorem dX1_add_15 : decode cX1_add 15 = .ok (.getfield 22, 3) := by decide +kernel
theorem dX1_add_18 : decode cX1_add 18 = .ok (.iload_n 1, 1) := by decide +kernel
theorem dX1_add_19 : decode cX1_add 19 = .ok (.iastore, 1) := by decide +kernel
theorem dX1_add_20 : decode cX1_add 20 = .ok (.aload_n 0, 1) := by decide +kernel
theorem dX1_add_21 : decode cX1_add 21 = .ok (.getfield 15, 3) := by decide +kernel
theorem dX1_add_24 : decode cX1_add 24 = .ok (.aload_n 0, 1) := by decide +kernel
theorem dX1_add_25 : decode cX1_add 25 = .ok (.getfield 22, 3) := by decide +kernel
theorem dX1_add_28 : decode cX1_add 28 = .ok (.lload_n 2, 1) := by decide +kernel
theorem dX1_add_29 : decode cX1_add 29 = .ok (.lastore, 1) := by decide +kernel
theorem dX1_add_30 : decode cX1_add 30 = .ok (.aload_n 0, 1) := by decide +kernel
theorem dX1_add_31 : decode cX1_add 31 = .ok (.getfield 19, 3) := by decide +kernel
theorem dX1_add_34 : decode cX1_add 34 = .ok (.aload_n 0, 1) := by decide +kernel
theorem dX1_add_35 : decode cX1_add 35 = .ok (.getfield 22, 3) := by decide +kernel
theorem dX1_add_38 : decode cX1_add 38 = .ok (.iload 4, 2) := by decide +kernel
theorem dX1_add_40 : decode cX1_add 40 = .ok (.iastore, 1) := by decide +kernel
theorem dX1_add_41 : decode cX1_add 41 = .ok (.aload_n 0, 1) := by decide +kernel
theorem dX1_add_42 : decode cX1_add 42 = .ok (.dup, 1) := by decide +kernel
theorem dX1_add_43 : decode cX1_add 43 = .ok (.getfield 22, 3) := by decide +kernel
theorem dX1_add_46 : decode cX1_add 46 = .ok (.iconst 1, 1) := by decide +kernel
theorem dX1_add_47 : decode cX1_add 47 = .ok (.iadd, 1) := by decide +kernel
theorem dX1_add_48 : decode cX1_add 48 = .ok (.putfield 22, 3) := by decide +kernel
theorem dX1_add_51 : decode cX1_add 51 = .ok (.return_, 1) := by decide +kernel
theorem dX1_setNumber_0 : decode cX1_setNumber 0 = .ok (.aload_n 0, 1) := by decide +kernel
theorem dX1_setNumber_1 : decode cX1_setNumber 1 = .ok (.iload_n 1, 1) := by decide +kernel
theorem dX1_setNumber_2 : decode cX1_setNumber 2 = .ok (.invokevirtual 26, 3) := by decide +kernel
theorem dX1_setNumber_5 : decode cX1_setNumber 5 = .ok (.ifCond .eq 10, 3) := by decide +kernel
theorem dX1_setNumber_8 : decode cX1_setNumber 8 = .ok (.aload_n 0, 1) := by decide +kernel
theorem dX1_setNumber_9 : decode cX1_setNumber 9 = .ok (.getfield 15, 3) := by decide +kernel
theorem dX1_setNumber_12 : decode cX1_setNumber 12 = .ok (.iload_n 1, 1) := by decide +kernel
theorem dX1_setNumber_13 : decode cX1_setNumber 13 = .ok (.lload_n 2, 1) := by decide +kernel
theorem dX1_setNumber_14 : decode cX1_setNumber 14 = .ok (.lastore, 1) := by decide +kernel
theorem dX1_setNumber_15 : decode cX1_setNumber 15 = .ok (.return_, 1) := by decide +kernel
theorem dX1_become_0 : decode cX1_become 0 = .ok (.aload_n 1, 1) := by decide +kernel
theorem dX1_become_1 : decode cX1_become 1 = .ok (.getfield 9, 3) := by decide +kernel
theorem dX1_become_4 : decode cX1_become 4 = .ok (.iconst 0, 1) := by decide +kernel
theorem dX1_become_5 : decode cX1_become 5 = .ok (.aload_n 0, 1) := by decide +kernel
theorem dX1_become_6 : decode cX1_become 6 = .ok (.getfield 9, 3) := by decide +kernel
theorem dX1_become_9 : decode cX1_become 9 = .ok (.iconst 0, 1) := by decide +kernel
theorem dX1_become_10 : decode cX1_become 10 = .ok (.aload_n 1, 1) := by decide +kernel
theorem dX1_become_11 : decode cX1_become 11 = .ok (.getfield 22, 3) := by decide +kernel
theorem dX1_become_14 : decode cX1_become 14 = .ok (.invokestatic 43, 3) := by decide +kernel
theorem dX1_become_17 : decode cX1_become 17 = .ok (.aload_n 1, 1) := by decide +kernel
theorem dX1_become_18 : decode cX1_become 18 = .ok (.getfield 15, 3) := by decide +kernel
theorem dX1_become_21 : decode cX1_become 21 = .ok (.iconst 0, 1) := by decide +kernel
theorem dX1_become_22 : decode cX1_become 22 = .ok (.aload_n 0, 1) := by decide +kernel
theorem dX1_become_23 : decode cX1_become 23 = .ok (.getfield 15, 3) := by decide +kernel
theorem dX1_become_26 : decode cX1_become 26 = .ok (.iconst 0, 1) := by decide +kernel
theorem dX1_become_27 : decode cX1_become 27 = .ok (.aload_n 1, 1) := by decide +kernel
theorem dX1_become_28 : decode cX1_become 28 = .ok (.getfield 22, 3) := by decide +kernel
theorem dX1_become_31 : decode cX1_become 31 = .ok (.invokestatic 43, 3) := by decide +kernel
theorem dX1_become_34 : decode cX1_become 34 = .ok (.aload_n 1, 1) := by decide +kernel
theorem dX1_become_35 : decode cX1_become 35 = .ok (.getfield 19, 3) := by decide +kernel
theorem dX1_become_38 : decode cX1_become 38 = .ok (.iconst 0, 1) := by decide +kernel
theorem dX1_become_39 : decode cX1_become 39 = .ok (.aload_n 0, 1) := by decide +kernel
theorem dX1_become_40 : decode cX1_become 40 = .ok (.getfield 19, 3) := by decide +kernel
theorem dX1_become_43 : decode cX1_become 43 = .ok (.iconst 0, 1) := by decide +kernel
theorem dX1_become_44 : decode cX1_become 44 = .ok (.aload_n 1, 1) := by decide +kernel
theorem dX1_become_45 : decode cX1_become 45 = .ok (.getfield 22, 3) := by decide +kernel
theorem dX1_become_48 : decode cX1_become 48 = .ok (.invokestatic 43, 3) := by decide +kernel
theorem dX1_become_51 : decode cX1_become 51 = .ok (.aload_n 0, 1) := by decide +kernel
theorem dX1_become_52 : decode cX1_become 52 = .ok (.aload_n 1, 1) := by decide +kernel
theorem dX1_become_53 : decode cX1_become 53 = .ok (.getfield 22, 3) := by decide +kernel
theorem dX1_become_56 : decode cX1_become 56 = .ok (.putfield 22, 3) := by decide +kernel
theorem dX1_become_59 : decode cX1_become 59 = .ok (.return_, 1) := by decide +kernel
theorem dX1_isAlike_0 : decode cX1_isAlike 0 = .ok (.aload_n 0, 1) := by decide +kernel
theorem dX1_isAlike_1 : decode cX1_isAlike 1 = .ok (.iload_n 1, 1) := by decide +kernel
theorem dX1_isAlike_2 : decode cX1_isAlike 2 = .ok (.invokevirtual 40, 3) := by decide +kernel
theorem dX1_isAlike_5 : decode cX1_isAlike 5 = .ok (.istore 4, 2) := by decide +kernel
theorem dX1_isAlike_7 : decode cX1_isAlike 7 = .ok (.iload 4, 2) := by decide +kernel
theorem dX1_isAlike_9 : decode cX1_isAlike 9 = .ok (.aload_n 2, 1) := by decide +kernel
theorem dX1_isAlike_10 : decode cX1_isAlike 10 = .ok (.iload_n 3, 1) := by decide +kernel
theorem dX1_isAlike_11 : decode cX1_isAlike 11 = .ok (.invokevirtual 40, 3) := by decide +kernel
theorem dX1_isAlike_14 : decode cX1_isAlike 14 = .ok (.if_icmp .eq 5, 3) := by decide +kernel
theorem dX1_isAlike_17 : decode cX1_isAlike 17 = .ok (.iconst 0, 1) := by decide +kernel
theorem dX1_isAlike_18 : decode cX1_isAlike 18 = .ok (.ireturn, 1) := by decide +kernel
theorem dX1_isAlike_19 : decode cX1_isAlike 19 = .ok (.iconst 0, 1) := by decide +kernel
theorem dX1_isAlike_20 : decode cX1_isAlike 20 = .ok (.istore 5, 2) := by decide +kernel
theorem dX1_isAlike_22 : decode cX1_isAlike 22 = .ok (.iload 5, 2) := by decide +kernel
theorem dX1_isAlike_24 : decode cX1_isAlike 24 = .ok (.iload 4, 2) := by decide +kernel
theorem dX1_isAlike_26 : decode cX1_isAlike 26 = .ok (.if_icmp .ge 50, 3) := by decide +kernel
theorem dX1_isAlike_29 : decode cX1_isAlike 29 = .ok (.aload_n 0, 1) := by decide +kernel
theorem dX1_isAlike_30 : decode cX1_isAlike 30 = .ok (.iload_n 1, 1) := by decide +kernel
theorem dX1_isAlike_31 : decode cX1_isAlike 31 = .ok (.iload 5, 2) := by decide +kernel
theorem dX1_isAlike_33 : decode cX1_isAlike 33 = .ok (.iadd, 1) := by decide +kernel
theorem dX1_isAlike_34 : decode cX1_isAlike 34 = .ok (.invokevirtual 30, 3) := by decide +kernel
theorem dX1_isAlike_37 : decode cX1_isAlike 37 = .ok (.aload_n 2, 1) := by decide +kernel
theorem dX1_isAlike_38 : decode cX1_isAlike 38 = .ok (.iload_n 3, 1) := by decide +kernel
theorem dX1_isAlike_39 : decode cX1_isAlike 39 = .ok (.iload 5, 2) := by decide +kernel
theorem dX1_isAlike_41 : decode cX1_isAlike 41 = .ok (.iadd, 1) := by decide +kernel
theorem dX1_isAlike_42 : decode cX1_isAlike 42 = .ok (.invokevirtual 30, 3) := by decide +kernel
theorem dX1_isAlike_45 : decode cX1_isAlike 45 = .ok (.if_icmp .ne 23, 3) := by decide +kernel
theorem dX1_isAlike_48 : decode cX1_isAlike 48 = .ok (.aload_n 0, 1) := by decide +kernel
theorem dX1_isAlike_49 : decode cX1_isAlike 49 = .ok (.iload_n 1, 1) := by decide +kernel
theorem dX1_isAlike_50 : decode cX1_isAlike 50 = .ok (.iload 5, 2) := by decide +kernel
theorem dX1_isAlike_52 : decode cX1_isAlike 52 = .ok (.iadd, 1) := by decide +kernel
theorem dX1_isAlike_53 : decode cX1_isAlike 53 = .ok (.invokevirtual 49, 3) := by decide +kernel
theorem dX1_isAlike_56 : decode cX1_isAlike 56 = .ok (.aload_n 2, 1) := by decide +kernel
theorem dX1_isAlike_57 : decode cX1_isAlike 57 = .ok (.iload_n 3, 1) := by decide +kernel
theorem dX1_isAlike_58 : decode cX1_isAlike 58 = .ok (.iload 5, 2) := by decide +kernel
theorem dX1_isAlike_60 : decode cX1_isAlike 60 = .ok (.iadd, 1) := by decide +kernel
theorem dX1_isAlike_61 : decode cX1_isAlike 61 = .ok (.invokevirtual 49, 3) := by decide +kernel
theorem dX1_isAlike_64 : decode cX1_isAlike 64 = .ok (.lcmp, 1) := by decide +kernel
theorem dX1_isAlike_65 : decode cX1_isAlike 65 = .ok (.ifCond .eq 5, 3) := by decide +kernel
theorem dX1_isAlike_68 : decode cX1_isAlike 68 = .ok (.iconst 0, 1) := by decide +kernel
theorem dX1_isAlike_69 : decode cX1_isAlike 69 = .ok (.ireturn, 1) := by decide +kernel
theorem dX1_isAlike_70 : decode cX1_isAlike 70 = .ok (.iinc 5 1, 3) := by decide +kernel
theorem dX1_isAlike_73 : decode cX1_isAlike 73 = .ok (.goto (-51), 3) := by decide +kernel
theorem dX1_isAlike_76 : decode cX1_isAlike 76 = .ok (.iconst 1, 1) := by decide +kernel
theorem dX1_isAlike_77 : decode cX1_isAlike 77 = .ok (.ireturn, 1) := by decide +kernel
theorem dX2_init_0 : decode cX2_init 0 = .ok (.aload_n 0, 1) := by decide +kernel
theorem dX2_init_1 : decode cX2_init 1 = .ok (.invokespecial 3, 3) := by decide +kernel
theorem dX2_init_4 : decode cX2_init 4 = .ok (.aload_n 0, 1) := by decide +kernel
theorem dX2_init_5 : decode cX2_init 5 = .ok (.sipush 200, 3) := by decide +kernel
theorem dX2_init_8 : decode cX2_init 8 = .ok (.newarray .int, 2) := by decide +kernel
theorem dX2_init_10 : decode cX2_init 10 = .ok (.putfield 9, 3) := by decide +kernel
theorem dX2_init_13 : decode cX2_init 13 = .ok (.aload_n 0, 1) := by decide +kernel
theorem dX2_init_14 : decode cX2_init 14 = .ok (.sipush 200, 3) := by decide +kernel
theorem dX2_init_17 : decode cX2_init 17 = .ok (.newarray .boolean, 2) := by decide +kernel
theorem dX2_init_19 : decode cX2_init 19 = .ok (.putfield 15, 3) := by decide +kernel
theorem dX2_init_22 : decode cX2_init 22 = .ok (.return_, 1) := by decide +kernel
theorem dX2_toldOf_0 : decode cX2_toldOf 0 = .ok (.iload_n 1, 1) := by decide +kernel
theorem dX2_toldOf_1 : decode cX2_toldOf 1 = .ok (.ifCond .lt 19, 3) := by decide +kernel
theorem dX2_toldOf_4 : decode cX2_toldOf 4 = .ok (.iload_n 1, 1) := by decide +kernel
theorem dX2_toldOf_5 : decode cX2_toldOf 5 = .ok (.sipush 200, 3) := by decide +kernel
theorem dX2_toldOf_8 : decode cX2_toldOf 8 = .ok (.if_icmp .ge 12, 3) := by decide +kernel
theorem dX2_toldOf_11 : decode cX2_toldOf 11 = .ok (.aload_n 0, 1) := by decide +kernel
theorem dX2_toldOf_12 : decode cX2_toldOf 12 = .ok (.getfield 9, 3) := by decide +kernel
theorem dX2_toldOf_15 : decode cX2_toldOf 15 = .ok (.iload_n 1, 1) := by decide +kernel
theorem dX2_toldOf_16 : decode cX2_toldOf 16 = .ok (.iaload, 1) := by decide +kernel
theorem dX2_toldOf_17 : decode cX2_toldOf 17 = .ok (.goto 4, 3) := by decide +kernel
theorem dX2_toldOf_20 : decode cX2_toldOf 20 = .ok (.iconst 0, 1) := by decide +kernel
theorem dX2_toldOf_21 : decode cX2_toldOf 21 = .ok (.ireturn, 1) := by decide +kernel
theorem dX2_measureOf_0 : decode cX2_measureOf 0 = .ok (.aload_n 1, 1) := by decide +kernel
theorem dX2_measureOf_1 : decode cX2_measureOf 1 = .ok (.invokevirtual 19, 3) := by decide +kernel
theorem dX2_measureOf_4 : decode cX2_measureOf 4 = .ok (.iconst 1, 1) := by decide +kernel
theorem dX2_measureOf_5 : decode cX2_measureOf 5 = .ok (.isub, 1) := by decide +kernel
theorem dX2_measureOf_6 : decode cX2_measureOf 6 = .ok (.istore_n 3, 1) := by decide +kernel
theorem dX2_measureOf_7 : decode cX2_measureOf 7 = .ok (.iload_n 3, 1) := by decide +kernel
theorem dX2_measureOf_8 : decode cX2_measureOf 8 = .ok (.ifCond .lt 39, 3) := by decide +kernel
theorem dX2_measureOf_11 : decode cX2_measureOf 11 = .ok (.aload_n 0, 1) := by decide +kernel
theorem dX2_measureOf_12 : decode cX2_measureOf 12 = .ok (.aload_n 1, 1) := by decide +kernel
theorem dX2_measureOf_13 : decode cX2_measureOf 13 = .ok (.iload_n 3, 1) := by decide +kernel
theorem dX2_measureOf_14 : decode cX2_measureOf 14 = .ok (.iload_n 2, 1) := by decide +kernel
theorem dX2_measureOf_15 : decode cX2_measureOf 15 = .ok (.invokevirtual 25, 3) := by decide +kernel
theorem dX2_measureOf_18 : decode cX2_measureOf 18 = .ok (.aload_n 1, 1) := by decide +kernel
theorem dX2_measureOf_19 : decode cX2_measureOf 19 = .ok (.iload_n 3, 1) := by decide +kernel
theorem dX2_measureOf_20 : decode cX2_measureOf 20 = .ok (.iload_n 2, 1) := by decide +kernel
theorem dX2_measureOf_21 : decode cX2_measureOf 21 = .ok (.invokestatic 29, 3) := by decide +kernel
theorem dX2_measureOf_24 : decode cX2_measureOf 24 = .ok (.iadd, 1) := by decide +kernel
theorem dX2_measureOf_25 : decode cX2_measureOf 25 = .ok (.istore 4, 2) := by decide +kernel
theorem dX2_measureOf_27 : decode cX2_measureOf 27 = .ok (.aload_n 0, 1) := by decide +kernel
theorem dX2_measureOf_28 : decode cX2_measureOf 28 = .ok (.getfield 9, 3) := by decide +kernel
theorem dX2_measureOf_31 : decode cX2_measureOf 31 = .ok (.iload_n 3, 1) := by decide +kernel
theorem dX2_measureOf_32 : decode cX2_measureOf 32 = .ok (.sipush 9999, 3) := by decide +kernel
theorem dX2_measureOf_35 : decode cX2_measureOf 35 = .ok (.iload 4, 2) := by decide +kernel
theorem dX2_measureOf_37 : decode cX2_measureOf 37 = .ok (.invokestatic 32, 3) := by decide +kernel
theorem dX2_measureOf_40 : decode cX2_measureOf 40 = .ok (.iastore, 1) := by decide +kernel
theorem dX2_measureOf_41 : decode cX2_measureOf 41 = .ok (.iinc 3 (-1), 3) := by decide +kernel
theorem dX2_measureOf_44 : decode cX2_measureOf 44 = .ok (.goto (-37), 3) := by decide +kernel
theorem dX2_measureOf_47 : decode cX2_measureOf 47 = .ok (.aload_n 0, 1) := by decide +kernel
theorem dX2_measureOf_48 : decode cX2_measureOf 48 = .ok (.getfield 9, 3) := by decide +kernel
theorem dX2_measureOf_51 : decode cX2_measureOf 51 = .ok (.iconst 0, 1) := by decide +kernel
theorem dX2_measureOf_52 : decode cX2_measureOf 52 = .ok (.iaload, 1) := by decide +kernel
theorem dX2_measureOf_53 : decode cX2_measureOf 53 = .ok (.ireturn, 1) := by decide +kernel
theorem dX2_join_0 : decode cX2_join 0 = .ok (.iload_n 0, 1) := by decide +kernel
theorem dX2_join_1 : decode cX2_join 1 = .ok (.iconst 1, 1) := by decide +kernel
theorem dX2_join_2 : decode cX2_join 2 = .ok (.if_icmp .eq 8, 3) := by decide +kernel
theorem dX2_join_5 : decode cX2_join 5 = .ok (.iload_n 0, 1) := by decide +kernel
theorem dX2_join_6 : decode cX2_join 6 = .ok (.iconst 3, 1) := by decide +kernel
theorem dX2_join_7 : decode cX2_join 7 = .ok (.if_icmp .ne 11, 3) := by decide +kernel
theorem dX2_join_10 : decode cX2_join 10 = .ok (.iload_n 1, 1) := by decide +kernel
theorem dX2_join_11 : decode cX2_join 11 = .ok (.iload_n 2, 1) := by decide +kernel
theorem dX2_join_12 : decode cX2_join 12 = .ok (.invokestatic 38, 3) := by decide +kernel
theorem dX2_join_15 : decode cX2_join 15 = .ok (.goto 6, 3) := by decide +kernel
theorem dX2_join_18 : decode cX2_join 18 = .ok (.iload_n 1, 1) := by decide +kernel
theorem dX2_join_19 : decode cX2_join 19 = .ok (.iload_n 2, 1) := by decide +kernel
theorem dX2_join_20 : decode cX2_join 20 = .ok (.iadd, 1) := by decide +kernel
theorem dX2_join_21 : decode cX2_join 21 = .ok (.ireturn, 1) := by decide +kernel
theorem dX2_own_0 : decode cX2_own 0 = .ok (.aload_n 0, 1) := by decide +kernel
theorem dX2_own_1 : decode cX2_own 1 = .ok (.iload_n 1, 1) := by decide +kernel
theorem dX2_own_2 : decode cX2_own 2 = .ok (.invokevirtual 41, 3) := by decide +kernel
theorem dX2_own_5 : decode cX2_own 5 = .ok (.istore_n 3, 1) := by decide +kernel
theorem dX2_own_6 : decode cX2_own 6 = .ok (.iload_n 2, 1) := by decide +kernel
theorem dX2_own_7 : decode cX2_own 7 = .ok (.iconst 2, 1) := by decide +kernel
theorem dX2_own_8 : decode cX2_own 8 = .ok (.if_icmp .eq 8, 3) := by decide +kernel
theorem dX2_own_11 : decode cX2_own 11 = .ok (.iload_n 2, 1) := by decide +kernel
theorem dX2_own_12 : decode cX2_own 12 = .ok (.iconst 4, 1) := by decide +kernel
theorem dX2_own_13 : decode cX2_own 13 = .ok (.if_icmp .ne 32, 3) := by decide +kernel
theorem dX2_own_16 : decode cX2_own 16 = .ok (.iload_n 3, 1) := by decide +kernel
theorem dX2_own_17 : decode cX2_own 17 = .ok (.iconst 5, 1) := by decide +kernel
theorem dX2_own_18 : decode cX2_own 18 = .ok (.if_icmp .ne 10, 3) := by decide +kernel
theorem dX2_own_21 : decode cX2_own 21 = .ok (.aload_n 0, 1) := by decide +kernel
theorem dX2_own_22 : decode cX2_own 22 = .ok (.iload_n 1, 1) := by decide +kernel
theorem dX2_own_23 : decode cX2_own 23 = .ok (.invokevirtual 45, 3) := by decide +kernel
theorem dX2_own_26 : decode cX2_own 26 = .ok (.l2i, 1) := by decide +kernel
theorem dX2_own_27 : decode cX2_own 27 = .ok (.ireturn, 1) := by decide +kernel
theorem dX2_own_28 : decode cX2_own 28 = .ok (.iload_n 3, 1) := by decide +kernel
theorem dX2_own_29 : decode cX2_own 29 = .ok (.iconst 4, 1) := by decide +kernel
theorem dX2_own_30 : decode cX2_own 30 = .ok (.if_icmp .eq 9, 3) := by decide +kernel
theorem dX2_own_33 : decode cX2_own 33 = .ok (.iload_n 3, 1) := by decide +kernel
theorem dX2_own_34 : decode cX2_own 34 = .ok (.bipush 7, 2) := by decide +kernel
theorem dX2_own_36 : decode cX2_own 36 = .ok (.if_icmp .ne 7, 3) := by decide +kernel
theorem dX2_own_39 : decode cX2_own 39 = .ok (.iconst 3, 1) := by decide +kernel
theorem dX2_own_40 : decode cX2_own 40 = .ok (.goto 4, 3) := by decide +kernel
theorem dX2_own_43 : decode cX2_own 43 = .ok (.iconst 1, 1) := by decide +kernel
theorem dX2_own_44 : decode cX2_own 44 = .ok (.ireturn, 1) := by decide +kernel
theorem dX2_own_45 : decode cX2_own 45 = .ok (.iload_n 2, 1) := by decide +kernel
theorem dX2_own_46 : decode cX2_own 46 = .ok (.iconst 3, 1) := by decide +kernel
theorem dX2_own_47 : decode cX2_own 47 = .ok (.if_icmp .ne 10, 3) := by decide +kernel
theorem dX2_own_50 : decode cX2_own 50 = .ok (.iload_n 3, 1) := by decide +kernel
theorem dX2_own_51 : decode cX2_own 51 = .ok (.iconst 2, 1) := by decide +kernel
theorem dX2_own_52 : decode cX2_own 52 = .ok (.if_icmp .ne 5, 3) := by decide +kernel
theorem dX2_own_55 : decode cX2_own 55 = .ok (.iconst 0, 1) := by decide +kernel
theorem dX2_own_56 : decode cX2_own 56 = .ok (.ireturn, 1) := by decide +kernel
theorem dX2_own_57 : decode cX2_own 57 = .ok (.iload_n 2, 1) := by decide +kernel
theorem dX2_own_58 : decode cX2_own 58 = .ok (.iconst 5, 1) := by decide +kernel
theorem dX2_own_59 : decode cX2_own 59 = .ok (.if_icmp .ne 13, 3) := by decide +kernel
theorem dX2_own_62 : decode cX2_own 62 = .ok (.iload_n 3, 1) := by decide +kernel
theorem dX2_own_63 : decode cX2_own 63 = .ok (.bipush 7, 2) := by decide +kernel
theorem dX2_own_65 : decode cX2_own 65 = .ok (.if_icmp .ne 7, 3) := by decide +kernel
theorem dX2_own_68 : decode cX2_own 68 = .ok (.iconst 2, 1) := by decide +kernel
theorem dX2_own_69 : decode cX2_own 69 = .ok (.goto 4, 3) := by decide +kernel
theorem dX2_own_72 : decode cX2_own 72 = .ok (.iconst 1, 1) := by decide +kernel
theorem dX2_own_73 : decode cX2_own 73 = .ok (.ireturn, 1) := by decide +kernel
theorem dX2_joinedParts_0 : decode cX2_joinedParts 0 = .ok (.aload_n 1, 1) := by decide +kernel
theorem dX2_joinedParts_1 : decode cX2_joinedParts 1 = .ok (.iload_n 2, 1) := by decide +kernel
theorem dX2_joinedParts_2 : decode cX2_joinedParts 2 = .ok (.invokevirtual 41, 3) := by decide +kernel
theorem dX2_joinedParts_5 : decode cX2_joinedParts 5 = .ok (.istore 4, 2) := by decide +kernel
theorem dX2_joinedParts_7 : decode cX2_joinedParts 7 = .ok (.aload_n 0, 1) := by decide +kernel
theorem dX2_joinedParts_8 : decode cX2_joinedParts 8 = .ok (.iload_n 2, 1) := by decide +kernel
theorem dX2_joinedParts_9 : decode cX2_joinedParts 9 = .ok (.iconst 1, 1) := by decide +kernel
theorem dX2_joinedParts_10 : decode cX2_joinedParts 10 = .ok (.iadd, 1) := by decide +kernel
theorem dX2_joinedParts_11 : decode cX2_joinedParts 11 = .ok (.invokevirtual 49, 3) := by decide +kernel
theorem dX2_joinedParts_14 : decode cX2_joinedParts 14 = .ok (.istore 5, 2) := by decide +kernel
theorem dX2_joinedParts_16 : decode cX2_joinedParts 16 = .ok (.iload_n 3, 1) := by decide +kernel
theorem dX2_joinedParts_17 : decode cX2_joinedParts 17 = .ok (.iconst 4, 1) := by decide +kernel
theorem dX2_joinedParts_18 : decode cX2_joinedParts 18 = .ok (.if_icmp .ne 40, 3) := by decide +kernel
theorem dX2_joinedParts_21 : decode cX2_joinedParts 21 = .ok (.iload 4, 2) := by decide +kernel
theorem dX2_joinedParts_23 : decode cX2_joinedParts 23 = .ok (.bipush 6, 2) := by decide +kernel
theorem dX2_joinedParts_25 : decode cX2_joinedParts 25 = .ok (.if_icmp .ne 33, 3) := by decide +kernel
theorem dX2_joinedParts_28 : decode cX2_joinedParts 28 = .ok (.iload_n 3, 1) := by decide +kernel
theorem dX2_joinedParts_29 : decode cX2_joinedParts 29 = .ok (.iload 5, 2) := by decide +kernel
theorem dX2_joinedParts_31 : decode cX2_joinedParts 31 = .ok (.aload_n 0, 1) := by decide +kernel
theorem dX2_joinedParts_32 : decode cX2_joinedParts 32 = .ok (.aload_n 1, 1) := by decide +kernel
theorem dX2_joinedParts_33 : decode cX2_joinedParts 33 = .ok (.iload_n 2, 1) := by decide +kernel
theorem dX2_joinedParts_34 : decode cX2_joinedParts 34 = .ok (.iconst 1, 1) := by decide +kernel
theorem dX2_joinedParts_35 : decode cX2_joinedParts 35 = .ok (.invokevirtual 52, 3) := by decide +kernel
theorem dX2_joinedParts_38 : decode cX2_joinedParts 38 = .ok (.invokevirtual 49, 3) := by decide +kernel
theorem dX2_joinedParts_41 : decode cX2_joinedParts 41 = .ok (.aload_n 0, 1) := by decide +kernel
theorem dX2_joinedParts_42 : decode cX2_joinedParts 42 = .ok (.aload_n 1, 1) := by decide +kernel
theorem dX2_joinedParts_43 : decode cX2_joinedParts 43 = .ok (.iload_n 2, 1) := by decide +kernel
theorem dX2_joinedParts_44 : decode cX2_joinedParts 44 = .ok (.iconst 2, 1) := by decide +kernel
theorem dX2_joinedParts_45 : decode cX2_joinedParts 45 = .ok (.invokevirtual 52, 3) := by decide +kernel
theorem dX2_joinedParts_48 : decode cX2_joinedParts 48 = .ok (.invokevirtual 49, 3) := by decide +kernel
theorem dX2_joinedParts_51 : decode cX2_joinedParts 51 = .ok (.invokestatic 38, 3) := by decide +kernel
theorem dX2_joinedParts_54 : decode cX2_joinedParts 54 = .ok (.invokestatic 55, 3) := by decide +kernel
theorem dX2_joinedParts_57 : decode cX2_joinedParts 57 = .ok (.ireturn, 1) := by decide +kernel
theorem dX2_joinedParts_58 : decode cX2_joinedParts 58 = .ok (.iload_n 3, 1) := by decide +kernel
theorem dX2_joinedParts_59 : decode cX2_joinedParts 59 = .ok (.iconst 5, 1) := by decide +kernel
theorem dX2_joinedParts_60 : decode cX2_joinedParts 60 = .ok (.if_icmp .ne 15, 3) := by decide +kernel
theorem dX2_joinedParts_63 : decode cX2_joinedParts 63 = .ok (.iload 4, 2) := by decide +kernel
theorem dX2_joinedParts_65 : decode cX2_joinedParts 65 = .ok (.bipush 7, 2) := by decide +kernel
theorem dX2_joinedParts_67 : decode cX2_joinedParts 67 = .ok (.if_icmp .ne 8, 3) := by decide +kernel
theorem dX2_joinedParts_70 : decode cX2_joinedParts 70 = .ok (.iconst 2, 1) := by decide +kernel
theorem dX2_joinedParts_71 : decode cX2_joinedParts 71 = .ok (.iload 5, 2) := by decide +kernel
theorem dX2_joinedParts_73 : decode cX2_joinedParts 73 = .ok (.imul, 1) := by decide +kernel
theorem dX2_joinedParts_74 : decode cX2_joinedParts 74 = .ok (.ireturn, 1) := by decide +kernel
theorem dX2_joinedParts_75 : decode cX2_joinedParts 75 = .ok (.iconst 0, 1) := by decide +kernel
theorem dX2_joinedParts_76 : decode cX2_joinedParts 76 = .ok (.istore 6, 2) := by decide +kernel
theorem dX2_joinedParts_78 : decode cX2_joinedParts 78 = .ok (.iconst 0, 1) := by decide +kernel
theorem dX2_joinedParts_79 : decode cX2_joinedParts 79 = .ok (.istore 7, 2) := by decide +kernel
theorem dX2_joinedParts_81 : decode cX2_joinedParts 81 = .ok (.iload 7, 2) := by decide +kernel
theorem dX2_joinedParts_83 : decode cX2_joinedParts 83 = .ok (.aload_n 1, 1) := by decide +kernel
theorem dX2_joinedParts_84 : decode cX2_joinedParts 84 = .ok (.iload_n 2, 1) := by decide +kernel
theorem dX2_joinedParts_85 : decode cX2_joinedParts 85 = .ok (.invokevirtual 59, 3) := by decide +kernel
theorem dX2_joinedParts_88 : decode cX2_joinedParts 88 = .ok (.if_icmp .ge 28, 3) := by decide +kernel
theorem dX2_joinedParts_91 : decode cX2_joinedParts 91 = .ok (.iload_n 3, 1) := by decide +kernel
theorem dX2_joinedParts_92 : decode cX2_joinedParts 92 = .ok (.iload 6, 2) := by decide +kernel
theorem dX2_joinedParts_94 : decode cX2_joinedParts 94 = .ok (.aload_n 0, 1) := by decide +kernel
theorem dX2_joinedParts_95 : decode cX2_joinedParts 95 = .ok (.aload_n 1, 1) := by decide +kernel
theorem dX2_joinedParts_96 : decode cX2_joinedParts 96 = .ok (.iload_n 2, 1) := by decide +kernel
theorem dX2_joinedParts_97 : decode cX2_joinedParts 97 = .ok (.iload 7, 2) := by decide +kernel
theorem dX2_joinedParts_99 : decode cX2_joinedParts 99 = .ok (.invokevirtual 52, 3) := by decide +kernel
theorem dX2_joinedParts_102 : decode cX2_joinedParts 102 = .ok (.invokevirtual 49, 3) := by decide +kernel
theorem dX2_joinedParts_105 : decode cX2_joinedParts 105 = .ok (.invokestatic 55, 3) := by decide +kernel
theorem dX2_joinedParts_108 : decode cX2_joinedParts 108 = .ok (.istore 6, 2) := by decide +kernel
theorem dX2_joinedParts_110 : decode cX2_joinedParts 110 = .ok (.iinc 7 1, 3) := by decide +kernel
theorem dX2_joinedParts_113 : decode cX2_joinedParts 113 = .ok (.goto (-32), 3) := by decide +kernel
theorem dX2_joinedParts_116 : decode cX2_joinedParts 116 = .ok (.iload 6, 2) := by decide +kernel
theorem dX2_joinedParts_118 : decode cX2_joinedParts 118 = .ok (.ireturn, 1) := by decide +kernel
theorem dX2_degreeOf_0 : decode cX2_degreeOf 0 = .ok (.aload_n 1, 1) := by decide +kernel
theorem dX2_degreeOf_1 : decode cX2_degreeOf 1 = .ok (.invokevirtual 19, 3) := by decide +kernel
theorem dX2_degreeOf_4 : decode cX2_degreeOf 4 = .ok (.iconst 1, 1) := by decide +kernel
theorem dX2_degreeOf_5 : decode cX2_degreeOf 5 = .ok (.isub, 1) := by decide +kernel
theorem dX2_degreeOf_6 : decode cX2_degreeOf 6 = .ok (.istore_n 3, 1) := by decide +kernel
theorem dX2_degreeOf_7 : decode cX2_degreeOf 7 = .ok (.iload_n 3, 1) := by decide +kernel
theorem dX2_degreeOf_8 : decode cX2_degreeOf 8 = .ok (.ifCond .lt 41, 3) := by decide +kernel
theorem dX2_degreeOf_11 : decode cX2_degreeOf 11 = .ok (.aload_n 0, 1) := by decide +kernel
theorem dX2_degreeOf_12 : decode cX2_degreeOf 12 = .ok (.getfield 15, 3) := by decide +kernel
theorem dX2_degreeOf_15 : decode cX2_degreeOf 15 = .ok (.iload_n 3, 1) := by decide +kernel
theorem dX2_degreeOf_16 : decode cX2_degreeOf 16 = .ok (.aload_n 0, 1) := by decide +kernel
theorem dX2_degreeOf_17 : decode cX2_degreeOf 17 = .ok (.aload_n 1, 1) := by decide +kernel
theorem dX2_degreeOf_18 : decode cX2_degreeOf 18 = .ok (.iload_n 3, 1) := by decide +kernel
theorem dX2_degreeOf_19 : decode cX2_degreeOf 19 = .ok (.iload_n 2, 1) := by decide +kernel
theorem dX2_degreeOf_20 : decode cX2_degreeOf 20 = .ok (.invokevirtual 62, 3) := by decide +kernel
theorem dX2_degreeOf_23 : decode cX2_degreeOf 23 = .ok (.bastore, 1) := by decide +kernel
theorem dX2_degreeOf_24 : decode cX2_degreeOf 24 = .ok (.aload_n 0, 1) := by decide +kernel
theorem dX2_degreeOf_25 : decode cX2_degreeOf 25 = .ok (.getfield 9, 3) := by decide +kernel
theorem dX2_degreeOf_28 : decode cX2_degreeOf 28 = .ok (.iload_n 3, 1) := by decide +kernel
theorem dX2_degreeOf_29 : decode cX2_degreeOf 29 = .ok (.sipush 9999, 3) := by decide +kernel
theorem dX2_degreeOf_32 : decode cX2_degreeOf 32 = .ok (.aload_n 0, 1) := by decide +kernel
theorem dX2_degreeOf_33 : decode cX2_degreeOf 33 = .ok (.aload_n 1, 1) := by decide +kernel
theorem dX2_degreeOf_34 : decode cX2_degreeOf 34 = .ok (.iload_n 3, 1) := by decide +kernel
theorem dX2_degreeOf_35 : decode cX2_degreeOf 35 = .ok (.iload_n 2, 1) := by decide +kernel
theorem dX2_degreeOf_36 : decode cX2_degreeOf 36 = .ok (.invokevirtual 66, 3) := by decide +kernel
theorem dX2_degreeOf_39 : decode cX2_degreeOf 39 = .ok (.invokestatic 32, 3) := by decide +kernel
theorem dX2_degreeOf_42 : decode cX2_degreeOf 42 = .ok (.iastore, 1) := by decide +kernel
theorem dX2_degreeOf_43 : decode cX2_degreeOf 43 = .ok (.iinc 3 (-1), 3) := by decide +kernel
theorem dX2_degreeOf_46 : decode cX2_degreeOf 46 = .ok (.goto (-39), 3) := by decide +kernel
theorem dX2_degreeOf_49 : decode cX2_degreeOf 49 = .ok (.aload_n 0, 1) := by decide +kernel
theorem dX2_degreeOf_50 : decode cX2_degreeOf 50 = .ok (.getfield 9, 3) := by decide +kernel
theorem dX2_degreeOf_53 : decode cX2_degreeOf 53 = .ok (.iconst 0, 1) := by decide +kernel
theorem dX2_degreeOf_54 : decode cX2_degreeOf 54 = .ok (.iaload, 1) := by decide +kernel
theorem dX2_degreeOf_55 : decode cX2_degreeOf 55 = .ok (.ireturn, 1) := by decide +kernel
theorem dX2_namedAt_0 : decode cX2_namedAt 0 = .ok (.iload_n 1, 1) := by decide +kernel
theorem dX2_namedAt_1 : decode cX2_namedAt 1 = .ok (.ifCond .lt 23, 3) := by decide +kernel
theorem dX2_namedAt_4 : decode cX2_namedAt 4 = .ok (.iload_n 1, 1) := by decide +kernel
theorem dX2_namedAt_5 : decode cX2_namedAt 5 = .ok (.sipush 200, 3) := by decide +kernel
theorem dX2_namedAt_8 : decode cX2_namedAt 8 = .ok (.if_icmp .ge 16, 3) := by decide +kernel
theorem dX2_namedAt_11 : decode cX2_namedAt 11 = .ok (.aload_n 0, 1) := by decide +kernel
theorem dX2_namedAt_12 : decode cX2_namedAt 12 = .ok (.getfield 15, 3) := by decide +kernel
theorem dX2_namedAt_15 : decode cX2_namedAt 15 = .ok (.iload_n 1, 1) := by decide +kernel
theorem dX2_namedAt_16 : decode cX2_namedAt 16 = .ok (.baload, 1) := by decide +kernel
theorem dX2_namedAt_17 : decode cX2_namedAt 17 = .ok (.ifCond .eq 7, 3) := by decide +kernel
theorem dX2_namedAt_20 : decode cX2_namedAt 20 = .ok (.iconst 1, 1) := by decide +kernel
theorem dX2_namedAt_21 : decode cX2_namedAt 21 = .ok (.goto 4, 3) := by decide +kernel
theorem dX2_namedAt_24 : decode cX2_namedAt 24 = .ok (.iconst 0, 1) := by decide +kernel
theorem dX2_namedAt_25 : decode cX2_namedAt 25 = .ok (.ireturn, 1) := by decide +kernel
theorem dX2_hasName_0 : decode cX2_hasName 0 = .ok (.aload_n 1, 1) := by decide +kernel
theorem dX2_hasName_1 : decode cX2_hasName 1 = .ok (.iload_n 2, 1) := by decide +kernel
theorem dX2_hasName_2 : decode cX2_hasName 2 = .ok (.invokevirtual 41, 3) := by decide +kernel
theorem dX2_hasName_5 : decode cX2_hasName 5 = .ok (.iconst 1, 1) := by decide +kernel
theorem dX2_hasName_6 : decode cX2_hasName 6 = .ok (.if_icmp .ne 18, 3) := by decide +kernel
theorem dX2_hasName_9 : decode cX2_hasName 9 = .ok (.aload_n 1, 1) := by decide +kernel
theorem dX2_hasName_10 : decode cX2_hasName 10 = .ok (.iload_n 2, 1) := by decide +kernel
theorem dX2_hasName_11 : decode cX2_hasName 11 = .ok (.invokevirtual 45, 3) := by decide +kernel
theorem dX2_hasName_14 : decode cX2_hasName 14 = .ok (.iload_n 3, 1) := by decide +kernel
theorem dX2_hasName_15 : decode cX2_hasName 15 = .ok (.i2l, 1) := by decide +kernel
theorem dX2_hasName_16 : decode cX2_hasName 16 = .ok (.lcmp, 1) := by decide +kernel
theorem dX2_hasName_17 : decode cX2_hasName 17 = .ok (.ifCond .ne 7, 3) := by decide +kernel
theorem dX2_hasName_20 : decode cX2_hasName 20 = .ok (.iconst 1, 1) := by decide +kernel
theorem dX2_hasName_21 : decode cX2_hasName 21 = .ok (.goto 4, 3) := by decide +kernel
theorem dX2_hasName_24 : decode cX2_hasName 24 = .ok (.iconst 0, 1) := by decide +kernel
theorem dX2_hasName_25 : decode cX2_hasName 25 = .ok (.istore 4, 2) := by decide +kernel
theorem dX2_hasName_27 : decode cX2_hasName 27 = .ok (.iconst 0, 1) := by decide +kernel
theorem dX2_hasName_28 : decode cX2_hasName 28 = .ok (.istore 5, 2) := by decide +kernel
theorem dX2_hasName_30 : decode cX2_hasName 30 = .ok (.iload 5, 2) := by decide +kernel
theorem dX2_hasName_32 : decode cX2_hasName 32 = .ok (.aload_n 1, 1) := by decide +kernel
theorem dX2_hasName_33 : decode cX2_hasName 33 = .ok (.iload_n 2, 1) := by decide +kernel
theorem dX2_hasName_34 : decode cX2_hasName 34 = .ok (.invokevirtual 59, 3) := by decide +kernel
theorem dX2_hasName_37 : decode cX2_hasName 37 = .ok (.if_icmp .ge 35, 3) := by decide +kernel
theorem dX2_hasName_40 : decode cX2_hasName 40 = .ok (.iload 4, 2) := by decide +kernel
theorem dX2_hasName_42 : decode cX2_hasName 42 = .ok (.ifCond .ne 17, 3) := by decide +kernel
theorem dX2_hasName_45 : decode cX2_hasName 45 = .ok (.aload_n 0, 1) := by decide +kernel
theorem dX2_hasName_46 : decode cX2_hasName 46 = .ok (.aload_n 1, 1) := by decide +kernel
theorem dX2_hasName_47 : decode cX2_hasName 47 = .ok (.iload_n 2, 1) := by decide +kernel
theorem dX2_hasName_48 : decode cX2_hasName 48 = .ok (.iload 5, 2) := by decide +kernel
theorem dX2_hasName_50 : decode cX2_hasName 50 = .ok (.invokevirtual 52, 3) := by decide +kernel
theorem dX2_hasName_53 : decode cX2_hasName 53 = .ok (.invokevirtual 69, 3) := by decide +kernel
theorem dX2_hasName_56 : decode cX2_hasName 56 = .ok (.ifCond .eq 7, 3) := by decide +kernel
theorem dX2_hasName_59 : decode cX2_hasName 59 = .ok (.iconst 1, 1) := by decide +kernel
theorem dX2_hasName_60 : decode cX2_hasName 60 = .ok (.goto 4, 3) := by decide +kernel
theorem dX2_hasName_63 : decode cX2_hasName 63 = .ok (.iconst 0, 1) := by decide +kernel
theorem dX2_hasName_64 : decode cX2_hasName 64 = .ok (.istore 4, 2) := by decide +kernel
theorem dX2_hasName_66 : decode cX2_hasName 66 = .ok (.iinc 5 1, 3) := by decide +kernel
theorem dX2_hasName_69 : decode cX2_hasName 69 = .ok (.goto (-39), 3) := by decide +kernel
theorem dX2_hasName_72 : decode cX2_hasName 72 = .ok (.iload 4, 2) := by decide +kernel
theorem dX2_hasName_74 : decode cX2_hasName 74 = .ok (.ireturn, 1) := by decide +kernel
theorem dX2_hasNoneOf_0 : decode cX2_hasNoneOf 0 = .ok (.iconst 0, 1) := by decide +kernel
theorem dX2_hasNoneOf_1 : decode cX2_hasNoneOf 1 = .ok (.istore_n 3, 1) := by decide +kernel
theorem dX2_hasNoneOf_2 : decode cX2_hasNoneOf 2 = .ok (.iload_n 3, 1) := by decide +kernel
theorem dX2_hasNoneOf_3 : decode cX2_hasNoneOf 3 = .ok (.aload_n 1, 1) := by decide +kernel
theorem dX2_hasNoneOf_4 : decode cX2_hasNoneOf 4 = .ok (.iload_n 2, 1) := by decide +kernel
theorem dX2_hasNoneOf_5 : decode cX2_hasNoneOf 5 = .ok (.invokevirtual 59, 3) := by decide +kernel
theorem dX2_hasNoneOf_8 : decode cX2_hasNoneOf 8 = .ok (.if_icmp .ge 25, 3) := by decide +kernel
theorem dX2_hasNoneOf_11 : decode cX2_hasNoneOf 11 = .ok (.aload_n 0, 1) := by decide +kernel
theorem dX2_hasNoneOf_12 : decode cX2_hasNoneOf 12 = .ok (.aload_n 1, 1) := by decide +kernel
theorem dX2_hasNoneOf_13 : decode cX2_hasNoneOf 13 = .ok (.iload_n 2, 1) := by decide +kernel
theorem dX2_hasNoneOf_14 : decode cX2_hasNoneOf 14 = .ok (.iload_n 3, 1) := by decide +kernel
theorem dX2_hasNoneOf_15 : decode cX2_hasNoneOf 15 = .ok (.invokevirtual 52, 3) := by decide +kernel
theorem dX2_hasNoneOf_18 : decode cX2_hasNoneOf 18 = .ok (.invokevirtual 49, 3) := by decide +kernel
theorem dX2_hasNoneOf_21 : decode cX2_hasNoneOf 21 = .ok (.iconst (-1), 1) := by decide +kernel
theorem dX2_hasNoneOf_22 : decode cX2_hasNoneOf 22 = .ok (.if_icmp .ne 5, 3) := by decide +kernel
theorem dX2_hasNoneOf_25 : decode cX2_hasNoneOf 25 = .ok (.iconst 1, 1) := by decide +kernel
theorem dX2_hasNoneOf_26 : decode cX2_hasNoneOf 26 = .ok (.ireturn, 1) := by decide +kernel
theorem dX2_hasNoneOf_27 : decode cX2_hasNoneOf 27 = .ok (.iinc 3 1, 3) := by decide +kernel
theorem dX2_hasNoneOf_30 : decode cX2_hasNoneOf 30 = .ok (.goto (-28), 3) := by decide +kernel
theorem dX2_hasNoneOf_33 : decode cX2_hasNoneOf 33 = .ok (.iconst 0, 1) := by decide +kernel
theorem dX2_hasNoneOf_34 : decode cX2_hasNoneOf 34 = .ok (.ireturn, 1) := by decide +kernel
theorem dX2_nodeDegree_0 : decode cX2_nodeDegree 0 = .ok (.aload_n 0, 1) := by decide +kernel
theorem dX2_nodeDegree_1 : decode cX2_nodeDegree 1 = .ok (.aload_n 1, 1) := by decide +kernel
theorem dX2_nodeDegree_2 : decode cX2_nodeDegree 2 = .ok (.iload_n 2, 1) := by decide +kernel
theorem dX2_nodeDegree_3 : decode cX2_nodeDegree 3 = .ok (.invokevirtual 73, 3) := by decide +kernel
theorem dX2_nodeDegree_6 : decode cX2_nodeDegree 6 = .ok (.ifCond .eq 5, 3) := by decide +kernel
theorem dX2_nodeDegree_9 : decode cX2_nodeDegree 9 = .ok (.iconst (-1), 1) := by decide +kernel
theorem dX2_nodeDegree_10 : decode cX2_nodeDegree 10 = .ok (.ireturn, 1) := by decide +kernel
theorem dX2_nodeDegree_11 : decode cX2_nodeDegree 11 = .ok (.aload_n 0, 1) := by decide +kernel
theorem dX2_nodeDegree_12 : decode cX2_nodeDegree 12 = .ok (.iload_n 2, 1) := by decide +kernel
theorem dX2_nodeDegree_13 : decode cX2_nodeDegree 13 = .ok (.iconst 1, 1) := by decide +kernel
theorem dX2_nodeDegree_14 : decode cX2_nodeDegree 14 = .ok (.iadd, 1) := by decide +kernel
theorem dX2_nodeDegree_15 : decode cX2_nodeDegree 15 = .ok (.invokevirtual 49, 3) := by decide +kernel
theorem dX2_nodeDegree_18 : decode cX2_nodeDegree 18 = .ok (.istore 4, 2) := by decide +kernel
theorem dX2_nodeDegree_20 : decode cX2_nodeDegree 20 = .ok (.aload_n 1, 1) := by decide +kernel
theorem dX2_nodeDegree_21 : decode cX2_nodeDegree 21 = .ok (.iload_n 2, 1) := by decide +kernel
theorem dX2_nodeDegree_22 : decode cX2_nodeDegree 22 = .ok (.invokevirtual 41, 3) := by decide +kernel
theorem dX2_nodeDegree_25 : decode cX2_nodeDegree 25 = .ok (.tableswitch 143 0 6 #[43, 45, 62, 65, 81, 95, 105], 43) := by decide +kernel
theorem dX2_nodeDegree_68 : decode cX2_nodeDegree 68 = .ok (.iconst 0, 1) := by decide +kernel
theorem dX2_nodeDegree_69 : decode cX2_nodeDegree 69 = .ok (.ireturn, 1) := by decide +kernel
theorem dX2_nodeDegree_70 : decode cX2_nodeDegree 70 = .ok (.aload_n 1, 1) := by decide +kernel
theorem dX2_nodeDegree_71 : decode cX2_nodeDegree 71 = .ok (.iload_n 2, 1) := by decide +kernel
theorem dX2_nodeDegree_72 : decode cX2_nodeDegree 72 = .ok (.invokevirtual 45, 3) := by decide +kernel
theorem dX2_nodeDegree_75 : decode cX2_nodeDegree 75 = .ok (.iload_n 3, 1) := by decide +kernel
theorem dX2_nodeDegree_76 : decode cX2_nodeDegree 76 = .ok (.i2l, 1) := by decide +kernel
theorem dX2_nodeDegree_77 : decode cX2_nodeDegree 77 = .ok (.lcmp, 1) := by decide +kernel
theorem dX2_nodeDegree_78 : decode cX2_nodeDegree 78 = .ok (.ifCond .ne 7, 3) := by decide +kernel
theorem dX2_nodeDegree_81 : decode cX2_nodeDegree 81 = .ok (.iconst 1, 1) := by decide +kernel
theorem dX2_nodeDegree_82 : decode cX2_nodeDegree 82 = .ok (.goto 4, 3) := by decide +kernel
theorem dX2_nodeDegree_85 : decode cX2_nodeDegree 85 = .ok (.iconst 0, 1) := by decide +kernel
theorem dX2_nodeDegree_86 : decode cX2_nodeDegree 86 = .ok (.ireturn, 1) := by decide +kernel
theorem dX2_nodeDegree_87 : decode cX2_nodeDegree 87 = .ok (.iload 4, 2) := by decide +kernel
theorem dX2_nodeDegree_89 : decode cX2_nodeDegree 89 = .ok (.ireturn, 1) := by decide +kernel
theorem dX2_nodeDegree_90 : decode cX2_nodeDegree 90 = .ok (.iload 4, 2) := by decide +kernel
theorem dX2_nodeDegree_92 : decode cX2_nodeDegree 92 = .ok (.aload_n 0, 1) := by decide +kernel
theorem dX2_nodeDegree_93 : decode cX2_nodeDegree 93 = .ok (.aload_n 1, 1) := by decide +kernel
theorem dX2_nodeDegree_94 : decode cX2_nodeDegree 94 = .ok (.iload_n 2, 1) := by decide +kernel
theorem dX2_nodeDegree_95 : decode cX2_nodeDegree 95 = .ok (.iconst 1, 1) := by decide +kernel
theorem dX2_nodeDegree_96 : decode cX2_nodeDegree 96 = .ok (.invokevirtual 52, 3) := by decide +kernel
theorem dX2_nodeDegree_99 : decode cX2_nodeDegree 99 = .ok (.invokevirtual 49, 3) := by decide +kernel
theorem dX2_nodeDegree_102 : decode cX2_nodeDegree 102 = .ok (.invokestatic 38, 3) := by decide +kernel
theorem dX2_nodeDegree_105 : decode cX2_nodeDegree 105 = .ok (.ireturn, 1) := by decide +kernel
theorem dX2_nodeDegree_106 : decode cX2_nodeDegree 106 = .ok (.iload 4, 2) := by decide +kernel
theorem dX2_nodeDegree_108 : decode cX2_nodeDegree 108 = .ok (.aload_n 0, 1) := by decide +kernel
theorem dX2_nodeDegree_109 : decode cX2_nodeDegree 109 = .ok (.aload_n 1, 1) := by decide +kernel
theorem dX2_nodeDegree_110 : decode cX2_nodeDegree 110 = .ok (.iload_n 2, 1) := by decide +kernel
theorem dX2_nodeDegree_111 : decode cX2_nodeDegree 111 = .ok (.iconst 1, 1) := by decide +kernel
theorem dX2_nodeDegree_112 : decode cX2_nodeDegree 112 = .ok (.invokevirtual 52, 3) := by decide +kernel
theorem dX2_nodeDegree_115 : decode cX2_nodeDegree 115 = .ok (.invokevirtual 49, 3) := by decide +kernel
theorem dX2_nodeDegree_118 : decode cX2_nodeDegree 118 = .ok (.iadd, 1) := by decide +kernel
theorem dX2_nodeDegree_119 : decode cX2_nodeDegree 119 = .ok (.ireturn, 1) := by decide +kernel
theorem dX2_nodeDegree_120 : decode cX2_nodeDegree 120 = .ok (.aload_n 1, 1) := by decide +kernel
theorem dX2_nodeDegree_121 : decode cX2_nodeDegree 121 = .ok (.iload_n 2, 1) := by decide +kernel
theorem dX2_nodeDegree_122 : decode cX2_nodeDegree 122 = .ok (.invokevirtual 45, 3) := by decide +kernel
theorem dX2_nodeDegree_125 : decode cX2_nodeDegree 125 = .ok (.l2i, 1) := by decide +kernel
theorem dX2_nodeDegree_126 : decode cX2_nodeDegree 126 = .ok (.iload 4, 2) := by decide +kernel
theorem dX2_nodeDegree_128 : decode cX2_nodeDegree 128 = .ok (.imul, 1) := by decide +kernel
theorem dX2_nodeDegree_129 : decode cX2_nodeDegree 129 = .ok (.ireturn, 1) := by decide +kernel
theorem dX2_nodeDegree_130 : decode cX2_nodeDegree 130 = .ok (.aload_n 0, 1) := by decide +kernel
theorem dX2_nodeDegree_131 : decode cX2_nodeDegree 131 = .ok (.iload_n 2, 1) := by decide +kernel
theorem dX2_nodeDegree_132 : decode cX2_nodeDegree 132 = .ok (.iconst 1, 1) := by decide +kernel
theorem dX2_nodeDegree_133 : decode cX2_nodeDegree 133 = .ok (.iadd, 1) := by decide +kernel
theorem dX2_nodeDegree_134 : decode cX2_nodeDegree 134 = .ok (.invokevirtual 69, 3) := by decide +kernel
theorem dX2_nodeDegree_137 : decode cX2_nodeDegree 137 = .ok (.ifCond .eq 7, 3) := by decide +kernel
theorem dX2_nodeDegree_140 : decode cX2_nodeDegree 140 = .ok (.iconst (-1), 1) := by decide +kernel
theorem dX2_nodeDegree_141 : decode cX2_nodeDegree 141 = .ok (.goto 26, 3) := by decide +kernel
theorem dX2_nodeDegree_144 : decode cX2_nodeDegree 144 = .ok (.aload_n 0, 1) := by decide +kernel
theorem dX2_nodeDegree_145 : decode cX2_nodeDegree 145 = .ok (.aload_n 1, 1) := by decide +kernel
theorem dX2_nodeDegree_146 : decode cX2_nodeDegree 146 = .ok (.iload_n 2, 1) := by decide +kernel
theorem dX2_nodeDegree_147 : decode cX2_nodeDegree 147 = .ok (.iconst 1, 1) := by decide +kernel
theorem dX2_nodeDegree_148 : decode cX2_nodeDegree 148 = .ok (.invokevirtual 52, 3) := by decide +kernel
theorem dX2_nodeDegree_151 : decode cX2_nodeDegree 151 = .ok (.invokevirtual 49, 3) := by decide +kernel
theorem dX2_nodeDegree_154 : decode cX2_nodeDegree 154 = .ok (.aload_n 0, 1) := by decide +kernel
theorem dX2_nodeDegree_155 : decode cX2_nodeDegree 155 = .ok (.aload_n 1, 1) := by decide +kernel
theorem dX2_nodeDegree_156 : decode cX2_nodeDegree 156 = .ok (.iload_n 2, 1) := by decide +kernel
theorem dX2_nodeDegree_157 : decode cX2_nodeDegree 157 = .ok (.iconst 2, 1) := by decide +kernel
theorem dX2_nodeDegree_158 : decode cX2_nodeDegree 158 = .ok (.invokevirtual 52, 3) := by decide +kernel
theorem dX2_nodeDegree_161 : decode cX2_nodeDegree 161 = .ok (.invokevirtual 49, 3) := by decide +kernel
theorem dX2_nodeDegree_164 : decode cX2_nodeDegree 164 = .ok (.invokestatic 38, 3) := by decide +kernel
theorem dX2_nodeDegree_167 : decode cX2_nodeDegree 167 = .ok (.ireturn, 1) := by decide +kernel
theorem dX2_nodeDegree_168 : decode cX2_nodeDegree 168 = .ok (.iconst 2, 1) := by decide +kernel
theorem dX2_nodeDegree_169 : decode cX2_nodeDegree 169 = .ok (.iload 4, 2) := by decide +kernel
theorem dX2_nodeDegree_171 : decode cX2_nodeDegree 171 = .ok (.imul, 1) := by decide +kernel
theorem dX2_nodeDegree_172 : decode cX2_nodeDegree 172 = .ok (.ireturn, 1) := by decide +kernel
theorem dX3_init_0 : decode cX3_init 0 = .ok (.aload_n 0, 1) := by decide +kernel
theorem dX3_init_1 : decode cX3_init 1 = .ok (.invokespecial 3, 3) := by decide +kernel
theorem dX3_init_4 : decode cX3_init 4 = .ok (.aload_n 0, 1) := by decide +kernel
theorem dX3_init_5 : decode cX3_init 5 = .ok (.sipush 400, 3) := by decide +kernel
theorem dX3_init_8 : decode cX3_init 8 = .ok (.newarray .int, 2) := by decide +kernel
theorem dX3_init_10 : decode cX3_init 10 = .ok (.putfield 11, 3) := by decide +kernel
theorem dX3_init_13 : decode cX3_init 13 = .ok (.aload_n 0, 1) := by decide +kernel
theorem dX3_init_14 : decode cX3_init 14 = .ok (.sipush 400, 3) := by decide +kernel
theorem dX3_init_17 : decode cX3_init 17 = .ok (.newarray .long, 2) := by decide +kernel
theorem dX3_init_19 : decode cX3_init 19 = .ok (.putfield 15, 3) := by decide +kernel
theorem dX3_init_22 : decode cX3_init 22 = .ok (.aload_n 0, 1) := by decide +kernel
theorem dX3_init_23 : decode cX3_init 23 = .ok (.sipush 200, 3) := by decide +kernel
theorem dX3_init_26 : decode cX3_init 26 = .ok (.newarray .int, 2) := by decide +kernel
theorem dX3_init_28 : decode cX3_init 28 = .ok (.putfield 19, 3) := by decide +kernel
theorem dX3_init_31 : decode cX3_init 31 = .ok (.aload_n 0, 1) := by decide +kernel
theorem dX3_init_32 : decode cX3_init 32 = .ok (.sipush 200, 3) := by decide +kernel
theorem dX3_init_35 : decode cX3_init 35 = .ok (.newarray .int, 2) := by decide +kernel
theorem dX3_init_37 : decode cX3_init 37 = .ok (.putfield 22, 3) := by decide +kernel
theorem dX3_init_40 : decode cX3_init 40 = .ok (.aload_n 0, 1) := by decide +kernel
theorem dX3_init_41 : decode cX3_init 41 = .ok (.sipush 400, 3) := by decide +kernel
theorem dX3_init_44 : decode cX3_init 44 = .ok (.newarray .long, 2) := by decide +kernel
theorem dX3_init_46 : decode cX3_init 46 = .ok (.putfield 25, 3) := by decide +kernel
theorem dX3_init_49 : decode cX3_init 49 = .ok (.return_, 1) := by decide +kernel
theorem dX3_lineCount_0 : decode cX3_lineCount 0 = .ok (.aload_n 0, 1) := by decide +kernel
theorem dX3_lineCount_1 : decode cX3_lineCount 1 = .ok (.getfield 28, 3) := by decide +kernel
theorem dX3_lineCount_4 : decode cX3_lineCount 4 = .ok (.ireturn, 1) := by decide +kernel
theorem dX3_lineAt_0 : decode cX3_lineAt 0 = .ok (.iload_n 1, 1) := by decide +kernel
theorem dX3_lineAt_1 : decode cX3_lineAt 1 = .ok (.ifCond .lt 20, 3) := by decide +kernel
theorem dX3_lineAt_4 : decode cX3_lineAt 4 = .ok (.iload_n 1, 1) := by decide +kernel
theorem dX3_lineAt_5 : decode cX3_lineAt 5 = .ok (.aload_n 0, 1) := by decide +kernel
theorem dX3_lineAt_6 : decode cX3_lineAt 6 = .ok (.getfield 28, 3) := by decide +kernel
theorem dX3_lineAt_9 : decode cX3_lineAt 9 = .ok (.if_icmp .ge 12, 3) := by decide +kernel
theorem dX3_lineAt_12 : decode cX3_lineAt 12 = .ok (.aload_n 0, 1) := by decide +kernel
theorem dX3_lineAt_13 : decode cX3_lineAt 13 = .ok (.getfield 11, 3) := by decide +kernel
theorem dX3_lineAt_16 : decode cX3_lineAt 16 = .ok (.iload_n 1, 1) := by decide +kernel
theorem dX3_lineAt_17 : decode cX3_lineAt 17 = .ok (.iaload, 1) := by decide +kernel
theorem dX3_lineAt_18 : decode cX3_lineAt 18 = .ok (.goto 4, 3) := by decide +kernel
theorem dX3_lineAt_21 : decode cX3_lineAt 21 = .ok (.iconst 0, 1) := by decide +kernel
theorem dX3_lineAt_22 : decode cX3_lineAt 22 = .ok (.ireturn, 1) := by decide +kernel
theorem dX3_steps_0 : decode cX3_steps 0 = .ok (.aload_n 0, 1) := by decide +kernel
theorem dX3_steps_1 : decode cX3_steps 1 = .ok (.getfield 32, 3) := by decide +kernel
theorem dX3_steps_4 : decode cX3_steps 4 = .ok (.ireturn, 1) := by decide +kernel
theorem dX3_high_0 : decode cX3_high 0 = .ok (.aload_n 0, 1) := by decide +kernel
theorem dX3_high_1 : decode cX3_high 1 = .ok (.getfield 35, 3) := by decide +kernel
theorem dX3_high_4 : decode cX3_high 4 = .ok (.ireturn, 1) := by decide +kernel
theorem dX3_translate_0 : decode cX3_translate 0 = .ok (.aload_n 1, 1) := by decide +kernel
theorem dX3_translate_1 : decode cX3_translate 1 = .ok (.invokevirtual 38, 3) := by decide +kernel
theorem dX3_translate_4 : decode cX3_translate 4 = .ok (.iconst 1, 1) := by decide +kernel
theorem dX3_translate_5 : decode cX3_translate 5 = .ok (.isub, 1) := by decide +kernel
theorem dX3_translate_6 : decode cX3_translate 6 = .ok (.istore_n 2, 1) := by decide +kernel
theorem dX3_translate_7 : decode cX3_translate 7 = .ok (.iload_n 2, 1) := by decide +kernel
theorem dX3_translate_8 : decode cX3_translate 8 = .ok (.ifCond .lt 21, 3) := by decide +kernel
theorem dX3_translate_11 : decode cX3_translate 11 = .ok (.aload_n 0, 1) := by decide +kernel
theorem dX3_translate_12 : decode cX3_translate 12 = .ok (.getfield 19, 3) := by decide +kernel
theorem dX3_translate_15 : decode cX3_translate 15 = .ok (.iload_n 2, 1) := by decide +kernel
theorem dX3_translate_16 : decode cX3_translate 16 = .ok (.aload_n 0, 1) := by decide +kernel
theorem dX3_translate_17 : decode cX3_translate 17 = .ok (.aload_n 1, 1) := by decide +kernel
theorem dX3_translate_18 : decode cX3_translate 18 = .ok (.iload_n 2, 1) := by decide +kernel
theorem dX3_translate_19 : decode cX3_translate 19 = .ok (.invokevirtual 43, 3) := by decide +kernel
theorem dX3_translate_22 : decode cX3_translate 22 = .ok (.iastore, 1) := by decide +kernel
theorem dX3_translate_23 : decode cX3_translate 23 = .ok (.iinc 2 (-1), 3) := by decide +kernel
theorem dX3_translate_26 : decode cX3_translate 26 = .ok (.goto (-19), 3) := by decide +kernel
theorem dX3_translate_29 : decode cX3_translate 29 = .ok (.aload_n 0, 1) := by decide +kernel
theorem dX3_translate_30 : decode cX3_translate 30 = .ok (.sipush 400, 3) := by decide +kernel
theorem dX3_translate_33 : decode cX3_translate 33 = .ok (.aload_n 0, 1) := by decide +kernel
theorem dX3_translate_34 : decode cX3_translate 34 = .ok (.getfield 19, 3) := by decide +kernel
theorem dX3_translate_37 : decode cX3_translate 37 = .ok (.iconst 0, 1) := by decide +kernel
theorem dX3_translate_38 : decode cX3_translate 38 = .ok (.iaload, 1) := by decide +kernel
theorem dX3_translate_39 : decode cX3_translate 39 = .ok (.invokestatic 47, 3) := by decide +kernel
theorem dX3_translate_42 : decode cX3_translate 42 = .ok (.putfield 28, 3) := by decide +kernel
theorem dX3_translate_45 : decode cX3_translate 45 = .ok (.aload_n 0, 1) := by decide +kernel
theorem dX3_translate_46 : decode cX3_translate 46 = .ok (.getfield 22, 3) := by decide +kernel
theorem dX3_translate_49 : decode cX3_translate 49 = .ok (.iconst 0, 1) := by decide +kernel
theorem dX3_translate_50 : decode cX3_translate 50 = .ok (.iconst 0, 1) := by decide +kernel
theorem dX3_translate_51 : decode cX3_translate 51 = .ok (.iastore, 1) := by decide +kernel
theorem dX3_translate_52 : decode cX3_translate 52 = .ok (.iconst 0, 1) := by decide +kernel
theorem dX3_translate_53 : decode cX3_translate 53 = .ok (.istore_n 2, 1) := by decide +kernel
theorem dX3_translate_54 : decode cX3_translate 54 = .ok (.iload_n 2, 1) := by decide +kernel
theorem dX3_translate_55 : decode cX3_translate 55 = .ok (.aload_n 1, 1) := by decide +kernel
theorem dX3_translate_56 : decode cX3_translate 56 = .ok (.invokevirtual 38, 3) := by decide +kernel
theorem dX3_translate_59 : decode cX3_translate 59 = .ok (.if_icmp .ge 27, 3) := by decide +kernel
theorem dX3_translate_62 : decode cX3_translate 62 = .ok (.aload_n 0, 1) := by decide +kernel
theorem dX3_translate_63 : decode cX3_translate 63 = .ok (.aload_n 1, 1) := by decide +kernel
theorem dX3_translate_64 : decode cX3_translate 64 = .ok (.iload_n 2, 1) := by decide +kernel
theorem dX3_translate_65 : decode cX3_translate 65 = .ok (.aload_n 0, 1) := by decide +kernel
theorem dX3_translate_66 : decode cX3_translate 66 = .ok (.getfield 22, 3) := by decide +kernel
theorem dX3_translate_69 : decode cX3_translate 69 = .ok (.iload_n 2, 1) := by decide +kernel
theorem dX3_translate_70 : decode cX3_translate 70 = .ok (.iaload, 1) := by decide +kernel
theorem dX3_translate_71 : decode cX3_translate 71 = .ok (.aload_n 0, 1) := by decide +kernel
theorem dX3_translate_72 : decode cX3_translate 72 = .ok (.getfield 19, 3) := by decide +kernel
theorem dX3_translate_75 : decode cX3_translate 75 = .ok (.iload_n 2, 1) := by decide +kernel
theorem dX3_translate_76 : decode cX3_translate 76 = .ok (.iaload, 1) := by decide +kernel
theorem dX3_translate_77 : decode cX3_translate 77 = .ok (.invokevirtual 53, 3) := by decide +kernel
theorem dX3_translate_80 : decode cX3_translate 80 = .ok (.iinc 2 1, 3) := by decide +kernel
theorem dX3_translate_83 : decode cX3_translate 83 = .ok (.goto (-29), 3) := by decide +kernel
theorem dX3_translate_86 : decode cX3_translate 86 = .ok (.return_, 1) := by decide +kernel
theorem dX3_lengthOf_0 : decode cX3_lengthOf 0 = .ok (.aload_n 1, 1) := by decide +kernel
theorem dX3_lengthOf_1 : decode cX3_lengthOf 1 = .ok (.iload_n 2, 1) := by decide +kernel
theorem dX3_lengthOf_2 : decode cX3_lengthOf 2 = .ok (.invokevirtual 57, 3) := by decide +kernel
theorem dX3_lengthOf_5 : decode cX3_lengthOf 5 = .ok (.istore_n 3, 1) := by decide +kernel
theorem dX3_lengthOf_6 : decode cX3_lengthOf 6 = .ok (.iload_n 3, 1) := by decide +kernel
theorem dX3_lengthOf_7 : decode cX3_lengthOf 7 = .ok (.bipush 6, 2) := by decide +kernel
theorem dX3_lengthOf_9 : decode cX3_lengthOf 9 = .ok (.if_icmp .eq 9, 3) := by decide +kernel
theorem dX3_lengthOf_12 : decode cX3_lengthOf 12 = .ok (.iload_n 3, 1) := by decide +kernel
theorem dX3_lengthOf_13 : decode cX3_lengthOf 13 = .ok (.bipush 7, 2) := by decide +kernel
theorem dX3_lengthOf_15 : decode cX3_lengthOf 15 = .ok (.if_icmp .ne 7, 3) := by decide +kernel
theorem dX3_lengthOf_18 : decode cX3_lengthOf 18 = .ok (.iconst 2, 1) := by decide +kernel
theorem dX3_lengthOf_19 : decode cX3_lengthOf 19 = .ok (.goto 4, 3) := by decide +kernel
theorem dX3_lengthOf_22 : decode cX3_lengthOf 22 = .ok (.iconst 1, 1) := by decide +kernel
theorem dX3_lengthOf_23 : decode cX3_lengthOf 23 = .ok (.istore 4, 2) := by decide +kernel
theorem dX3_lengthOf_25 : decode cX3_lengthOf 25 = .ok (.iconst 0, 1) := by decide +kernel
theorem dX3_lengthOf_26 : decode cX3_lengthOf 26 = .ok (.istore 5, 2) := by decide +kernel
theorem dX3_lengthOf_28 : decode cX3_lengthOf 28 = .ok (.iload 5, 2) := by decide +kernel
theorem dX3_lengthOf_30 : decode cX3_lengthOf 30 = .ok (.aload_n 1, 1) := by decide +kernel
theorem dX3_lengthOf_31 : decode cX3_lengthOf 31 = .ok (.iload_n 2, 1) := by decide +kernel
theorem dX3_lengthOf_32 : decode cX3_lengthOf 32 = .ok (.invokevirtual 61, 3) := by decide +kernel
theorem dX3_lengthOf_35 : decode cX3_lengthOf 35 = .ok (.if_icmp .ge 25, 3) := by decide +kernel
theorem dX3_lengthOf_38 : decode cX3_lengthOf 38 = .ok (.iload 4, 2) := by decide +kernel
theorem dX3_lengthOf_40 : decode cX3_lengthOf 40 = .ok (.aload_n 0, 1) := by decide +kernel
theorem dX3_lengthOf_41 : decode cX3_lengthOf 41 = .ok (.aload_n 1, 1) := by decide +kernel
theorem dX3_lengthOf_42 : decode cX3_lengthOf 42 = .ok (.iload_n 2, 1) := by decide +kernel
theorem dX3_lengthOf_43 : decode cX3_lengthOf 43 = .ok (.iload 5, 2) := by decide +kernel
theorem dX3_lengthOf_45 : decode cX3_lengthOf 45 = .ok (.invokevirtual 64, 3) := by decide +kernel
theorem dX3_lengthOf_48 : decode cX3_lengthOf 48 = .ok (.invokevirtual 67, 3) := by decide +kernel
theorem dX3_lengthOf_51 : decode cX3_lengthOf 51 = .ok (.iadd, 1) := by decide +kernel
theorem dX3_lengthOf_52 : decode cX3_lengthOf 52 = .ok (.istore 4, 2) := by decide +kernel
theorem dX3_lengthOf_54 : decode cX3_lengthOf 54 = .ok (.iinc 5 1, 3) := by decide +kernel
theorem dX3_lengthOf_57 : decode cX3_lengthOf 57 = .ok (.goto (-29), 3) := by decide +kernel
theorem dX3_lengthOf_60 : decode cX3_lengthOf 60 = .ok (.iload 4, 2) := by decide +kernel
theorem dX3_lengthOf_62 : decode cX3_lengthOf 62 = .ok (.ireturn, 1) := by decide +kernel
theorem dX3_lengthAt_0 : decode cX3_lengthAt 0 = .ok (.iload_n 1, 1) := by decide +kernel
theorem dX3_lengthAt_1 : decode cX3_lengthAt 1 = .ok (.ifCond .lt 19, 3) := by decide +kernel
theorem dX3_lengthAt_4 : decode cX3_lengthAt 4 = .ok (.iload_n 1, 1) := by decide +kernel
theorem dX3_lengthAt_5 : decode cX3_lengthAt 5 = .ok (.sipush 200, 3) := by decide +kernel
theorem dX3_lengthAt_8 : decode cX3_lengthAt 8 = .ok (.if_icmp .ge 12, 3) := by decide +kernel
theorem dX3_lengthAt_11 : decode cX3_lengthAt 11 = .ok (.aload_n 0, 1) := by decide +kernel
theorem dX3_lengthAt_12 : decode cX3_lengthAt 12 = .ok (.getfield 19, 3) := by decide +kernel
theorem dX3_lengthAt_15 : decode cX3_lengthAt 15 = .ok (.iload_n 1, 1) := by decide +kernel
theorem dX3_lengthAt_16 : decode cX3_lengthAt 16 = .ok (.iaload, 1) := by decide +kernel
theorem dX3_lengthAt_17 : decode cX3_lengthAt 17 = .ok (.goto 4, 3) := by decide +kernel
theorem dX3_lengthAt_20 : decode cX3_lengthAt 20 = .ok (.iconst 0, 1) := by decide +kernel
theorem dX3_lengthAt_21 : decode cX3_lengthAt 21 = .ok (.ireturn, 1) := by decide +kernel
theorem dX3_place_0 : decode cX3_place 0 = .ok (.iload_n 1, 1) := by decide +kernel
theorem dX3_place_1 : decode cX3_place 1 = .ok (.ifCond .lt 17, 3) := by decide +kernel
theorem dX3_place_4 : decode cX3_place 4 = .ok (.iload_n 1, 1) := by decide +kernel
theorem dX3_place_5 : decode cX3_place 5 = .ok (.sipush 200, 3) := by decide +kernel
theorem dX3_place_8 : decode cX3_place 8 = .ok (.if_icmp .ge 10, 3) := by decide +kernel
theorem dX3_place_11 : decode cX3_place 11 = .ok (.aload_n 0, 1) := by decide +kernel
theorem dX3_place_12 : decode cX3_place 12 = .ok (.getfield 22, 3) := by decide +kernel
theorem dX3_place_15 : decode cX3_place 15 = .ok (.iload_n 1, 1) := by decide +kernel
theorem dX3_place_16 : decode cX3_place 16 = .ok (.iload_n 2, 1) := by decide +kernel
theorem dX3_place_17 : decode cX3_place 17 = .ok (.iastore, 1) := by decide +kernel
theorem dX3_place_18 : decode cX3_place 18 = .ok (.iload_n 2, 1) := by decide +kernel
theorem dX3_place_19 : decode cX3_place 19 = .ok (.aload_n 0, 1) := by decide +kernel
theorem dX3_place_20 : decode cX3_place 20 = .ok (.iload_n 1, 1) := by decide +kernel
theorem dX3_place_21 : decode cX3_place 21 = .ok (.invokevirtual 67, 3) := by decide +kernel
theorem dX3_place_24 : decode cX3_place 24 = .ok (.iadd, 1) := by decide +kernel
theorem dX3_place_25 : decode cX3_place 25 = .ok (.ireturn, 1) := by decide +kernel
theorem dX3_write_0 : decode cX3_write 0 = .ok (.iload_n 1, 1) := by decide +kernel
theorem dX3_write_1 : decode cX3_write 1 = .ok (.ifCond .lt 38, 3) := by decide +kernel
theorem dX3_write_4 : decode cX3_write 4 = .ok (.iload_n 1, 1) := by decide +kernel
theorem dX3_write_5 : decode cX3_write 5 = .ok (.sipush 400, 3) := by decide +kernel
theorem dX3_write_8 : decode cX3_write 8 = .ok (.if_icmp .ge 31, 3) := by decide +kernel
theorem dX3_write_11 : decode cX3_write 11 = .ok (.aload_n 0, 1) := by decide +kernel
theorem dX3_write_12 : decode cX3_write 12 = .ok (.getfield 11, 3) := by decide +kernel
theorem dX3_write_15 : decode cX3_write 15 = .ok (.iload_n 1, 1) := by decide +kernel
theorem dX3_write_16 : decode cX3_write 16 = .ok (.bipush 10, 2) := by decide +kernel
theorem dX3_write_18 : decode cX3_write 18 = .ok (.iload_n 2, 1) := by decide +kernel
theorem dX3_write_19 : decode cX3_write 19 = .ok (.imul, 1) := by decide +kernel
theorem dX3_write_20 : decode cX3_write 20 = .ok (.iload_n 2, 1) := by decide +kernel
theorem dX3_write_21 : decode cX3_write 21 = .ok (.ifCond .ne 7, 3) := by decide +kernel
theorem dX3_write_24 : decode cX3_write 24 = .ok (.iconst 0, 1) := by decide +kernel
theorem dX3_write_25 : decode cX3_write 25 = .ok (.goto 5, 3) := by decide +kernel
theorem dX3_write_28 : decode cX3_write 28 = .ok (.lload_n 3, 1) := by decide +kernel
theorem dX3_write_29 : decode cX3_write 29 = .ok (.l2i, 1) := by decide +kernel
theorem dX3_write_30 : decode cX3_write 30 = .ok (.iadd, 1) := by decide +kernel
theorem dX3_write_31 : decode cX3_write 31 = .ok (.iastore, 1) := by decide +kernel
theorem dX3_write_32 : decode cX3_write 32 = .ok (.aload_n 0, 1) := by decide +kernel
theorem dX3_write_33 : decode cX3_write 33 = .ok (.getfield 15, 3) := by decide +kernel
theorem dX3_write_36 : decode cX3_write 36 = .ok (.iload_n 1, 1) := by decide +kernel
theorem dX3_write_37 : decode cX3_write 37 = .ok (.lload_n 3, 1) := by decide +kernel
theorem dX3_write_38 : decode cX3_write 38 = .ok (.lastore, 1) := by decide +kernel
theorem dX3_write_39 : decode cX3_write 39 = .ok (.return_, 1) := by decide +kernel
theorem dX3_writeNode_0 : decode cX3_writeNode 0 = .ok (.iload_n 3, 1) := by decide +kernel
theorem dX3_writeNode_1 : decode cX3_writeNode 1 = .ok (.iload 4, 2) := by decide +kernel
theorem dX3_writeNode_3 : decode cX3_writeNode 3 = .ok (.iadd, 1) := by decide +kernel
theorem dX3_writeNode_4 : decode cX3_writeNode 4 = .ok (.iconst 1, 1) := by decide +kernel
theorem dX3_writeNode_5 : decode cX3_writeNode 5 = .ok (.isub, 1) := by decide +kernel
theorem dX3_writeNode_6 : decode cX3_writeNode 6 = .ok (.istore 5, 2) := by decide +kernel
theorem dX3_writeNode_8 : decode cX3_writeNode 8 = .ok (.aload_n 1, 1) := by decide +kernel
theorem dX3_writeNode_9 : decode cX3_writeNode 9 = .ok (.iload_n 2, 1) := by decide +kernel
theorem dX3_writeNode_10 : decode cX3_writeNode 10 = .ok (.invokevirtual 57, 3) := by decide +kernel
theorem dX3_writeNode_13 : decode cX3_writeNode 13 = .ok (.tableswitch 189 0 6 #[43, 58, 73, 93, 123, 153, 177], 43) := by decide +kernel
theorem dX3_writeNode_56 : decode cX3_writeNode 56 = .ok (.aload_n 0, 1) := by decide +kernel
theorem dX3_writeNode_57 : decode cX3_writeNode 57 = .ok (.iload 5, 2) := by decide +kernel
theorem dX3_writeNode_59 : decode cX3_writeNode 59 = .ok (.iconst 0, 1) := by decide +kernel
theorem dX3_writeNode_60 : decode cX3_writeNode 60 = .ok (.aload_n 1, 1) := by decide +kernel
theorem dX3_writeNode_61 : decode cX3_writeNode 61 = .ok (.iload_n 2, 1) := by decide +kernel
theorem dX3_writeNode_62 : decode cX3_writeNode 62 = .ok (.invokevirtual 70, 3) := by decide +kernel
theorem dX3_writeNode_65 : decode cX3_writeNode 65 = .ok (.invokevirtual 74, 3) := by decide +kernel
theorem dX3_writeNode_68 : decode cX3_writeNode 68 = .ok (.goto 157, 3) := by decide +kernel
theorem dX3_writeNode_71 : decode cX3_writeNode 71 = .ok (.aload_n 0, 1) := by decide +kernel
theorem dX3_writeNode_72 : decode cX3_writeNode 72 = .ok (.iload 5, 2) := by decide +kernel
theorem dX3_writeNode_74 : decode cX3_writeNode 74 = .ok (.iconst 1, 1) := by decide +kernel
theorem dX3_writeNode_75 : decode cX3_writeNode 75 = .ok (.aload_n 1, 1) := by decide +kernel
theorem dX3_writeNode_76 : decode cX3_writeNode 76 = .ok (.iload_n 2, 1) := by decide +kernel
theorem dX3_writeNode_77 : decode cX3_writeNode 77 = .ok (.invokevirtual 70, 3) := by decide +kernel
theorem dX3_writeNode_80 : decode cX3_writeNode 80 = .ok (.invokevirtual 74, 3) := by decide +kernel
theorem dX3_writeNode_83 : decode cX3_writeNode 83 = .ok (.goto 142, 3) := by decide +kernel
theorem dX3_writeNode_86 : decode cX3_writeNode 86 = .ok (.aload_n 0, 1) := by decide +kernel
theorem dX3_writeNode_87 : decode cX3_writeNode 87 = .ok (.iload_n 2, 1) := by decide +kernel
theorem dX3_writeNode_88 : decode cX3_writeNode 88 = .ok (.iconst 1, 1) := by decide +kernel
theorem dX3_writeNode_89 : decode cX3_writeNode 89 = .ok (.iadd, 1) := by decide +kernel
theorem dX3_writeNode_90 : decode cX3_writeNode 90 = .ok (.iload_n 3, 1) := by decide +kernel
theorem dX3_writeNode_91 : decode cX3_writeNode 91 = .ok (.invokevirtual 78, 3) := by decide +kernel
theorem dX3_writeNode_94 : decode cX3_writeNode 94 = .ok (.pop, 1) := by decide +kernel
theorem dX3_writeNode_95 : decode cX3_writeNode 95 = .ok (.aload_n 0, 1) := by decide +kernel
theorem dX3_writeNode_96 : decode cX3_writeNode 96 = .ok (.iload 5, 2) := by decide +kernel
theorem dX3_writeNode_98 : decode cX3_writeNode 98 = .ok (.iconst 2, 1) := by decide +kernel
theorem dX3_writeNode_99 : decode cX3_writeNode 99 = .ok (.lconst 0, 1) := by decide +kernel
theorem dX3_writeNode_100 : decode cX3_writeNode 100 = .ok (.invokevirtual 74, 3) := by decide +kernel
theorem dX3_writeNode_103 : decode cX3_writeNode 103 = .ok (.goto 122, 3) := by decide +kernel
theorem dX3_writeNode_106 : decode cX3_writeNode 106 = .ok (.aload_n 0, 1) := by decide +kernel
theorem dX3_writeNode_107 : decode cX3_writeNode 107 = .ok (.aload_n 1, 1) := by decide +kernel
theorem dX3_writeNode_108 : decode cX3_writeNode 108 = .ok (.iload_n 2, 1) := by decide +kernel
theorem dX3_writeNode_109 : decode cX3_writeNode 109 = .ok (.iconst 1, 1) := by decide +kernel
theorem dX3_writeNode_110 : decode cX3_writeNode 110 = .ok (.invokevirtual 64, 3) := by decide +kernel
theorem dX3_writeNode_113 : decode cX3_writeNode 113 = .ok (.aload_n 0, 1) := by decide +kernel
theorem dX3_writeNode_114 : decode cX3_writeNode 114 = .ok (.iload_n 2, 1) := by decide +kernel
theorem dX3_writeNode_115 : decode cX3_writeNode 115 = .ok (.iconst 1, 1) := by decide +kernel
theorem dX3_writeNode_116 : decode cX3_writeNode 116 = .ok (.iadd, 1) := by decide +kernel
theorem dX3_writeNode_117 : decode cX3_writeNode 117 = .ok (.iload_n 3, 1) := by decide +kernel
theorem dX3_writeNode_118 : decode cX3_writeNode 118 = .ok (.invokevirtual 78, 3) := by decide +kernel
theorem dX3_writeNode_121 : decode cX3_writeNode 121 = .ok (.invokevirtual 78, 3) := by decide +kernel
theorem dX3_writeNode_124 : decode cX3_writeNode 124 = .ok (.pop, 1) := by decide +kernel
theorem dX3_writeNode_125 : decode cX3_writeNode 125 = .ok (.aload_n 0, 1) := by decide +kernel
theorem dX3_writeNode_126 : decode cX3_writeNode 126 = .ok (.iload 5, 2) := by decide +kernel
theorem dX3_writeNode_128 : decode cX3_writeNode 128 = .ok (.iconst 3, 1) := by decide +kernel
theorem dX3_writeNode_129 : decode cX3_writeNode 129 = .ok (.lconst 0, 1) := by decide +kernel
theorem dX3_writeNode_130 : decode cX3_writeNode 130 = .ok (.invokevirtual 74, 3) := by decide +kernel
theorem dX3_writeNode_133 : decode cX3_writeNode 133 = .ok (.goto 92, 3) := by decide +kernel
theorem dX3_writeNode_136 : decode cX3_writeNode 136 = .ok (.aload_n 0, 1) := by decide +kernel
theorem dX3_writeNode_137 : decode cX3_writeNode 137 = .ok (.aload_n 1, 1) := by decide +kernel
theorem dX3_writeNode_138 : decode cX3_writeNode 138 = .ok (.iload_n 2, 1) := by decide +kernel
theorem dX3_writeNode_139 : decode cX3_writeNode 139 = .ok (.iconst 1, 1) := by decide +kernel
theorem dX3_writeNode_140 : decode cX3_writeNode 140 = .ok (.invokevirtual 64, 3) := by decide +kernel
theorem dX3_writeNode_143 : decode cX3_writeNode 143 = .ok (.aload_n 0, 1) := by decide +kernel
theorem dX3_writeNode_144 : decode cX3_writeNode 144 = .ok (.iload_n 2, 1) := by decide +kernel
theorem dX3_writeNode_145 : decode cX3_writeNode 145 = .ok (.iconst 1, 1) := by decide +kernel
theorem dX3_writeNode_146 : decode cX3_writeNode 146 = .ok (.iadd, 1) := by decide +kernel
theorem dX3_writeNode_147 : decode cX3_writeNode 147 = .ok (.iload_n 3, 1) := by decide +kernel
theorem dX3_writeNode_148 : decode cX3_writeNode 148 = .ok (.invokevirtual 78, 3) := by decide +kernel
theorem dX3_writeNode_151 : decode cX3_writeNode 151 = .ok (.invokevirtual 78, 3) := by decide +kernel
theorem dX3_writeNode_154 : decode cX3_writeNode 154 = .ok (.pop, 1) := by decide +kernel
theorem dX3_writeNode_155 : decode cX3_writeNode 155 = .ok (.aload_n 0, 1) := by decide +kernel
theorem dX3_writeNode_156 : decode cX3_writeNode 156 = .ok (.iload 5, 2) := by decide +kernel
theorem dX3_writeNode_158 : decode cX3_writeNode 158 = .ok (.iconst 4, 1) := by decide +kernel
theorem dX3_writeNode_159 : decode cX3_writeNode 159 = .ok (.lconst 0, 1) := by decide +kernel
theorem dX3_writeNode_160 : decode cX3_writeNode 160 = .ok (.invokevirtual 74, 3) := by decide +kernel
theorem dX3_writeNode_163 : decode cX3_writeNode 163 = .ok (.goto 62, 3) := by decide +kernel
theorem dX3_writeNode_166 : decode cX3_writeNode 166 = .ok (.aload_n 0, 1) := by decide +kernel
theorem dX3_writeNode_167 : decode cX3_writeNode 167 = .ok (.iload_n 2, 1) := by decide +kernel
theorem dX3_writeNode_168 : decode cX3_writeNode 168 = .ok (.iconst 1, 1) := by decide +kernel
theorem dX3_writeNode_169 : decode cX3_writeNode 169 = .ok (.iadd, 1) := by decide +kernel
theorem dX3_writeNode_170 : decode cX3_writeNode 170 = .ok (.iload_n 3, 1) := by decide +kernel
theorem dX3_writeNode_171 : decode cX3_writeNode 171 = .ok (.invokevirtual 78, 3) := by decide +kernel
theorem dX3_writeNode_174 : decode cX3_writeNode 174 = .ok (.pop, 1) := by decide +kernel
theorem dX3_writeNode_175 : decode cX3_writeNode 175 = .ok (.aload_n 0, 1) := by decide +kernel
theorem dX3_writeNode_176 : decode cX3_writeNode 176 = .ok (.iload 5, 2) := by decide +kernel
theorem dX3_writeNode_178 : decode cX3_writeNode 178 = .ok (.iconst 5, 1) := by decide +kernel
theorem dX3_writeNode_179 : decode cX3_writeNode 179 = .ok (.aload_n 1, 1) := by decide +kernel
theorem dX3_writeNode_180 : decode cX3_writeNode 180 = .ok (.iload_n 2, 1) := by decide +kernel
theorem dX3_writeNode_181 : decode cX3_writeNode 181 = .ok (.invokevirtual 70, 3) := by decide +kernel
theorem dX3_writeNode_184 : decode cX3_writeNode 184 = .ok (.invokevirtual 74, 3) := by decide +kernel
theorem dX3_writeNode_187 : decode cX3_writeNode 187 = .ok (.goto 38, 3) := by decide +kernel
theorem dX3_writeNode_190 : decode cX3_writeNode 190 = .ok (.aload_n 0, 1) := by decide +kernel
theorem dX3_writeNode_191 : decode cX3_writeNode 191 = .ok (.aload_n 1, 1) := by decide +kernel
theorem dX3_writeNode_192 : decode cX3_writeNode 192 = .ok (.iload_n 2, 1) := by decide +kernel
theorem dX3_writeNode_193 : decode cX3_writeNode 193 = .ok (.iload_n 3, 1) := by decide +kernel
theorem dX3_writeNode_194 : decode cX3_writeNode 194 = .ok (.iload 4, 2) := by decide +kernel
theorem dX3_writeNode_196 : decode cX3_writeNode 196 = .ok (.invokevirtual 81, 3) := by decide +kernel
theorem dX3_writeNode_199 : decode cX3_writeNode 199 = .ok (.goto 26, 3) := by decide +kernel
theorem dX3_writeNode_202 : decode cX3_writeNode 202 = .ok (.aload_n 0, 1) := by decide +kernel
theorem dX3_writeNode_203 : decode cX3_writeNode 203 = .ok (.aload_n 0, 1) := by decide +kernel
theorem dX3_writeNode_204 : decode cX3_writeNode 204 = .ok (.iload_n 2, 1) := by decide +kernel
theorem dX3_writeNode_205 : decode cX3_writeNode 205 = .ok (.iconst 1, 1) := by decide +kernel
theorem dX3_writeNode_206 : decode cX3_writeNode 206 = .ok (.iadd, 1) := by decide +kernel
theorem dX3_writeNode_207 : decode cX3_writeNode 207 = .ok (.iload_n 3, 1) := by decide +kernel
theorem dX3_writeNode_208 : decode cX3_writeNode 208 = .ok (.invokevirtual 78, 3) := by decide +kernel
theorem dX3_writeNode_211 : decode cX3_writeNode 211 = .ok (.bipush 8, 2) := by decide +kernel
theorem dX3_writeNode_213 : decode cX3_writeNode 213 = .ok (.lconst 0, 1) := by decide +kernel
theorem dX3_writeNode_214 : decode cX3_writeNode 214 = .ok (.invokevirtual 74, 3) := by decide +kernel
theorem dX3_writeNode_217 : decode cX3_writeNode 217 = .ok (.aload_n 0, 1) := by decide +kernel
theorem dX3_writeNode_218 : decode cX3_writeNode 218 = .ok (.iload 5, 2) := by decide +kernel
theorem dX3_writeNode_220 : decode cX3_writeNode 220 = .ok (.iconst 4, 1) := by decide +kernel
theorem dX3_writeNode_221 : decode cX3_writeNode 221 = .ok (.lconst 0, 1) := by decide +kernel
theorem dX3_writeNode_222 : decode cX3_writeNode 222 = .ok (.invokevirtual 74, 3) := by decide +kernel
theorem dX3_writeNode_225 : decode cX3_writeNode 225 = .ok (.return_, 1) := by decide +kernel
theorem dX3_writePick_0 : decode cX3_writePick 0 = .ok (.aload_n 0, 1) := by decide +kernel
theorem dX3_writePick_1 : decode cX3_writePick 1 = .ok (.iload_n 2, 1) := by decide +kernel
theorem dX3_writePick_2 : decode cX3_writePick 2 = .ok (.iconst 1, 1) := by decide +kernel
theorem dX3_writePick_3 : decode cX3_writePick 3 = .ok (.iadd, 1) := by decide +kernel
theorem dX3_writePick_4 : decode cX3_writePick 4 = .ok (.iload_n 3, 1) := by decide +kernel
theorem dX3_writePick_5 : decode cX3_writePick 5 = .ok (.invokevirtual 78, 3) := by decide +kernel
theorem dX3_writePick_8 : decode cX3_writePick 8 = .ok (.istore 5, 2) := by decide +kernel
theorem dX3_writePick_10 : decode cX3_writePick 10 = .ok (.aload_n 0, 1) := by decide +kernel
theorem dX3_writePick_11 : decode cX3_writePick 11 = .ok (.aload_n 1, 1) := by decide +kernel
theorem dX3_writePick_12 : decode cX3_writePick 12 = .ok (.iload_n 2, 1) := by decide +kernel
theorem dX3_writePick_13 : decode cX3_writePick 13 = .ok (.iconst 1, 1) := by decide +kernel
theorem dX3_writePick_14 : decode cX3_writePick 14 = .ok (.invokevirtual 64, 3) := by decide +kernel
theorem dX3_writePick_17 : decode cX3_writePick 17 = .ok (.iload 5, 2) := by decide +kernel
theorem dX3_writePick_19 : decode cX3_writePick 19 = .ok (.iconst 1, 1) := by decide +kernel
theorem dX3_writePick_20 : decode cX3_writePick 20 = .ok (.iadd, 1) := by decide +kernel
theorem dX3_writePick_21 : decode cX3_writePick 21 = .ok (.invokevirtual 78, 3) := by decide +kernel
theorem dX3_writePick_24 : decode cX3_writePick 24 = .ok (.istore 6, 2) := by decide +kernel
theorem dX3_writePick_26 : decode cX3_writePick 26 = .ok (.aload_n 0, 1) := by decide +kernel
theorem dX3_writePick_27 : decode cX3_writePick 27 = .ok (.aload_n 1, 1) := by decide +kernel
theorem dX3_writePick_28 : decode cX3_writePick 28 = .ok (.iload_n 2, 1) := by decide +kernel
theorem dX3_writePick_29 : decode cX3_writePick 29 = .ok (.iconst 2, 1) := by decide +kernel
theorem dX3_writePick_30 : decode cX3_writePick 30 = .ok (.invokevirtual 64, 3) := by decide +kernel
theorem dX3_writePick_33 : decode cX3_writePick 33 = .ok (.iload 6, 2) := by decide +kernel
theorem dX3_writePick_35 : decode cX3_writePick 35 = .ok (.iconst 1, 1) := by decide +kernel
theorem dX3_writePick_36 : decode cX3_writePick 36 = .ok (.iadd, 1) := by decide +kernel
theorem dX3_writePick_37 : decode cX3_writePick 37 = .ok (.invokevirtual 78, 3) := by decide +kernel
theorem dX3_writePick_40 : decode cX3_writePick 40 = .ok (.pop, 1) := by decide +kernel
theorem dX3_writePick_41 : decode cX3_writePick 41 = .ok (.aload_n 0, 1) := by decide +kernel
theorem dX3_writePick_42 : decode cX3_writePick 42 = .ok (.iload 5, 2) := by decide +kernel
theorem dX3_writePick_44 : decode cX3_writePick 44 = .ok (.bipush 6, 2) := by decide +kernel
theorem dX3_writePick_46 : decode cX3_writePick 46 = .ok (.bipush 100, 2) := by decide +kernel
theorem dX3_writePick_48 : decode cX3_writePick 48 = .ok (.iload 6, 2) := by decide +kernel
theorem dX3_writePick_50 : decode cX3_writePick 50 = .ok (.iconst 1, 1) := by decide +kernel
theorem dX3_writePick_51 : decode cX3_writePick 51 = .ok (.iadd, 1) := by decide +kernel
theorem dX3_writePick_52 : decode cX3_writePick 52 = .ok (.imul, 1) := by decide +kernel
theorem dX3_writePick_53 : decode cX3_writePick 53 = .ok (.i2l, 1) := by decide +kernel
theorem dX3_writePick_54 : decode cX3_writePick 54 = .ok (.invokevirtual 74, 3) := by decide +kernel
theorem dX3_writePick_57 : decode cX3_writePick 57 = .ok (.aload_n 0, 1) := by decide +kernel
theorem dX3_writePick_58 : decode cX3_writePick 58 = .ok (.iload 6, 2) := by decide +kernel
theorem dX3_writePick_60 : decode cX3_writePick 60 = .ok (.bipush 7, 2) := by decide +kernel
theorem dX3_writePick_62 : decode cX3_writePick 62 = .ok (.bipush 100, 2) := by decide +kernel
theorem dX3_writePick_64 : decode cX3_writePick 64 = .ok (.iload_n 3, 1) := by decide +kernel
theorem dX3_writePick_65 : decode cX3_writePick 65 = .ok (.iload 4, 2) := by decide +kernel
theorem dX3_writePick_67 : decode cX3_writePick 67 = .ok (.iadd, 1) := by decide +kernel
theorem dX3_writePick_68 : decode cX3_writePick 68 = .ok (.imul, 1) := by decide +kernel
theorem dX3_writePick_69 : decode cX3_writePick 69 = .ok (.i2l, 1) := by decide +kernel
theorem dX3_writePick_70 : decode cX3_writePick 70 = .ok (.invokevirtual 74, 3) := by decide +kernel
theorem dX3_writePick_73 : decode cX3_writePick 73 = .ok (.return_, 1) := by decide +kernel
theorem dX3_execute_0 : decode cX3_execute 0 = .ok (.aload_n 0, 1) := by decide +kernel
theorem dX3_execute_1 : decode cX3_execute 1 = .ok (.iconst 0, 1) := by decide +kernel
theorem dX3_execute_2 : decode cX3_execute 2 = .ok (.putfield 84, 3) := by decide +kernel
theorem dX3_execute_5 : decode cX3_execute 5 = .ok (.aload_n 0, 1) := by decide +kernel
theorem dX3_execute_6 : decode cX3_execute 6 = .ok (.iconst 0, 1) := by decide +kernel
theorem dX3_execute_7 : decode cX3_execute 7 = .ok (.putfield 35, 3) := by decide +kernel
theorem dX3_execute_10 : decode cX3_execute 10 = .ok (.aload_n 0, 1) := by decide +kernel
theorem dX3_execute_11 : decode cX3_execute 11 = .ok (.iconst 0, 1) := by decide +kernel
theorem dX3_execute_12 : decode cX3_execute 12 = .ok (.putfield 32, 3) := by decide +kernel
theorem dX3_execute_15 : decode cX3_execute 15 = .ok (.iconst 0, 1) := by decide +kernel
theorem dX3_execute_16 : decode cX3_execute 16 = .ok (.istore_n 2, 1) := by decide +kernel
theorem dX3_execute_17 : decode cX3_execute 17 = .ok (.aload_n 0, 1) := by decide +kernel
theorem dX3_execute_18 : decode cX3_execute 18 = .ok (.getfield 32, 3) := by decide +kernel
theorem dX3_execute_21 : decode cX3_execute 21 = .ok (.sipush 400, 3) := by decide +kernel
theorem dX3_execute_24 : decode cX3_execute 24 = .ok (.if_icmp .ge 35, 3) := by decide +kernel
theorem dX3_execute_27 : decode cX3_execute 27 = .ok (.iload_n 2, 1) := by decide +kernel
theorem dX3_execute_28 : decode cX3_execute 28 = .ok (.ifCond .lt 31, 3) := by decide +kernel
theorem dX3_execute_31 : decode cX3_execute 31 = .ok (.iload_n 2, 1) := by decide +kernel
theorem dX3_execute_32 : decode cX3_execute 32 = .ok (.aload_n 0, 1) := by decide +kernel
theorem dX3_execute_33 : decode cX3_execute 33 = .ok (.getfield 28, 3) := by decide +kernel
theorem dX3_execute_36 : decode cX3_execute 36 = .ok (.if_icmp .ge 23, 3) := by decide +kernel
theorem dX3_execute_39 : decode cX3_execute 39 = .ok (.aload_n 0, 1) := by decide +kernel
theorem dX3_execute_40 : decode cX3_execute 40 = .ok (.dup, 1) := by decide +kernel
theorem dX3_execute_41 : decode cX3_execute 41 = .ok (.getfield 32, 3) := by decide +kernel
theorem dX3_execute_44 : decode cX3_execute 44 = .ok (.iconst 1, 1) := by decide +kernel
theorem dX3_execute_45 : decode cX3_execute 45 = .ok (.iadd, 1) := by decide +kernel
theorem dX3_execute_46 : decode cX3_execute 46 = .ok (.putfield 32, 3) := by decide +kernel
theorem dX3_execute_49 : decode cX3_execute 49 = .ok (.aload_n 0, 1) := by decide +kernel
theorem dX3_execute_50 : decode cX3_execute 50 = .ok (.iload_n 2, 1) := by decide +kernel
theorem dX3_execute_51 : decode cX3_execute 51 = .ok (.aload_n 1, 1) := by decide +kernel
theorem dX3_execute_52 : decode cX3_execute 52 = .ok (.invokevirtual 87, 3) := by decide +kernel
theorem dX3_execute_55 : decode cX3_execute 55 = .ok (.istore_n 2, 1) := by decide +kernel
theorem dX3_execute_56 : decode cX3_execute 56 = .ok (.goto (-39), 3) := by decide +kernel
theorem dX3_execute_59 : decode cX3_execute 59 = .ok (.aload_n 0, 1) := by decide +kernel
theorem dX3_execute_60 : decode cX3_execute 60 = .ok (.invokevirtual 91, 3) := by decide +kernel
theorem dX3_execute_63 : decode cX3_execute 63 = .ok (.lreturn, 1) := by decide +kernel
theorem dX3_push_0 : decode cX3_push 0 = .ok (.aload_n 0, 1) := by decide +kernel
theorem dX3_push_1 : decode cX3_push 1 = .ok (.getfield 84, 3) := by decide +kernel
theorem dX3_push_4 : decode cX3_push 4 = .ok (.sipush 400, 3) := by decide +kernel
theorem dX3_push_7 : decode cX3_push 7 = .ok (.if_icmp .ge 38, 3) := by decide +kernel
theorem dX3_push_10 : decode cX3_push 10 = .ok (.aload_n 0, 1) := by decide +kernel
theorem dX3_push_11 : decode cX3_push 11 = .ok (.getfield 25, 3) := by decide +kernel
theorem dX3_push_14 : decode cX3_push 14 = .ok (.aload_n 0, 1) := by decide +kernel
theorem dX3_push_15 : decode cX3_push 15 = .ok (.getfield 84, 3) := by decide +kernel
theorem dX3_push_18 : decode cX3_push 18 = .ok (.lload_n 1, 1) := by decide +kernel
theorem dX3_push_19 : decode cX3_push 19 = .ok (.lastore, 1) := by decide +kernel
theorem dX3_push_20 : decode cX3_push 20 = .ok (.aload_n 0, 1) := by decide +kernel
theorem dX3_push_21 : decode cX3_push 21 = .ok (.dup, 1) := by decide +kernel
theorem dX3_push_22 : decode cX3_push 22 = .ok (.getfield 84, 3) := by decide +kernel
theorem dX3_push_25 : decode cX3_push 25 = .ok (.iconst 1, 1) := by decide +kernel
theorem dX3_push_26 : decode cX3_push 26 = .ok (.iadd, 1) := by decide +kernel
theorem dX3_push_27 : decode cX3_push 27 = .ok (.putfield 84, 3) := by decide +kernel
theorem dX3_push_30 : decode cX3_push 30 = .ok (.aload_n 0, 1) := by decide +kernel
theorem dX3_push_31 : decode cX3_push 31 = .ok (.aload_n 0, 1) := by decide +kernel
theorem dX3_push_32 : decode cX3_push 32 = .ok (.getfield 35, 3) := by decide +kernel
theorem dX3_push_35 : decode cX3_push 35 = .ok (.aload_n 0, 1) := by decide +kernel
theorem dX3_push_36 : decode cX3_push 36 = .ok (.getfield 84, 3) := by decide +kernel
theorem dX3_push_39 : decode cX3_push 39 = .ok (.invokestatic 95, 3) := by decide +kernel
theorem dX3_push_42 : decode cX3_push 42 = .ok (.putfield 35, 3) := by decide +kernel
theorem dX3_push_45 : decode cX3_push 45 = .ok (.return_, 1) := by decide +kernel
theorem dX3_pop_0 : decode cX3_pop 0 = .ok (.aload_n 0, 1) := by decide +kernel
theorem dX3_pop_1 : decode cX3_pop 1 = .ok (.getfield 84, 3) := by decide +kernel
theorem dX3_pop_4 : decode cX3_pop 4 = .ok (.ifCond .gt 5, 3) := by decide +kernel
theorem dX3_pop_7 : decode cX3_pop 7 = .ok (.lconst 0, 1) := by decide +kernel
theorem dX3_pop_8 : decode cX3_pop 8 = .ok (.lreturn, 1) := by decide +kernel
theorem dX3_pop_9 : decode cX3_pop 9 = .ok (.aload_n 0, 1) := by decide +kernel
theorem dX3_pop_10 : decode cX3_pop 10 = .ok (.dup, 1) := by decide +kernel
theorem dX3_pop_11 : decode cX3_pop 11 = .ok (.getfield 84, 3) := by decide +kernel
theorem dX3_pop_14 : decode cX3_pop 14 = .ok (.iconst 1, 1) := by decide +kernel
theorem dX3_pop_15 : decode cX3_pop 15 = .ok (.isub, 1) := by decide +kernel
theorem dX3_pop_16 : decode cX3_pop 16 = .ok (.putfield 84, 3) := by decide +kernel
theorem dX3_pop_19 : decode cX3_pop 19 = .ok (.aload_n 0, 1) := by decide +kernel
theorem dX3_pop_20 : decode cX3_pop 20 = .ok (.getfield 25, 3) := by decide +kernel
theorem dX3_pop_23 : decode cX3_pop 23 = .ok (.aload_n 0, 1) := by decide +kernel
theorem dX3_pop_24 : decode cX3_pop 24 = .ok (.getfield 84, 3) := by decide +kernel
theorem dX3_pop_27 : decode cX3_pop 27 = .ok (.laload, 1) := by decide +kernel
theorem dX3_pop_28 : decode cX3_pop 28 = .ok (.lreturn, 1) := by decide +kernel
theorem dX3_lineBehind_0 : decode cX3_lineBehind 0 = .ok (.aload_n 0, 1) := by decide +kernel
theorem dX3_lineBehind_1 : decode cX3_lineBehind 1 = .ok (.getfield 11, 3) := by decide +kernel
theorem dX3_lineBehind_4 : decode cX3_lineBehind 4 = .ok (.iload_n 1, 1) := by decide +kernel
theorem dX3_lineBehind_5 : decode cX3_lineBehind 5 = .ok (.iaload, 1) := by decide +kernel
theorem dX3_lineBehind_6 : decode cX3_lineBehind 6 = .ok (.istore_n 3, 1) := by decide +kernel
theorem dX3_lineBehind_7 : decode cX3_lineBehind 7 = .ok (.iload_n 3, 1) := by decide +kernel
theorem dX3_lineBehind_8 : decode cX3_lineBehind 8 = .ok (.bipush 100, 2) := by decide +kernel
theorem dX3_lineBehind_10 : decode cX3_lineBehind 10 = .ok (.irem, 1) := by decide +kernel
theorem dX3_lineBehind_11 : decode cX3_lineBehind 11 = .ok (.bipush 10, 2) := by decide +kernel
theorem dX3_lineBehind_13 : decode cX3_lineBehind 13 = .ok (.idiv, 1) := by decide +kernel
theorem dX3_lineBehind_14 : decode cX3_lineBehind 14 = .ok (.istore 4, 2) := by decide +kernel
theorem dX3_lineBehind_16 : decode cX3_lineBehind 16 = .ok (.iload 4, 2) := by decide +kernel
theorem dX3_lineBehind_18 : decode cX3_lineBehind 18 = .ok (.tableswitch 119 0 7 #[46, 59, 119, 119, 119, 75, 94, 114], 46) := by decide +kernel
theorem dX3_lineBehind_64 : decode cX3_lineBehind 64 = .ok (.aload_n 0, 1) := by decide +kernel
theorem dX3_lineBehind_65 : decode cX3_lineBehind 65 = .ok (.aload_n 0, 1) := by decide +kernel
theorem dX3_lineBehind_66 : decode cX3_lineBehind 66 = .ok (.getfield 15, 3) := by decide +kernel
theorem dX3_lineBehind_69 : decode cX3_lineBehind 69 = .ok (.iload_n 1, 1) := by decide +kernel
theorem dX3_lineBehind_70 : decode cX3_lineBehind 70 = .ok (.laload, 1) := by decide +kernel
theorem dX3_lineBehind_71 : decode cX3_lineBehind 71 = .ok (.invokevirtual 98, 3) := by decide +kernel
theorem dX3_lineBehind_74 : decode cX3_lineBehind 74 = .ok (.goto 69, 3) := by decide +kernel
theorem dX3_lineBehind_77 : decode cX3_lineBehind 77 = .ok (.aload_n 0, 1) := by decide +kernel
theorem dX3_lineBehind_78 : decode cX3_lineBehind 78 = .ok (.aload_n 2, 1) := by decide +kernel
theorem dX3_lineBehind_79 : decode cX3_lineBehind 79 = .ok (.iload_n 3, 1) := by decide +kernel
theorem dX3_lineBehind_80 : decode cX3_lineBehind 80 = .ok (.bipush 10, 2) := by decide +kernel
theorem dX3_lineBehind_82 : decode cX3_lineBehind 82 = .ok (.irem, 1) := by decide +kernel
theorem dX3_lineBehind_83 : decode cX3_lineBehind 83 = .ok (.i2l, 1) := by decide +kernel
theorem dX3_lineBehind_84 : decode cX3_lineBehind 84 = .ok (.invokestatic 102, 3) := by decide +kernel
theorem dX3_lineBehind_87 : decode cX3_lineBehind 87 = .ok (.invokevirtual 98, 3) := by decide +kernel
theorem dX3_lineBehind_90 : decode cX3_lineBehind 90 = .ok (.goto 53, 3) := by decide +kernel
theorem dX3_lineBehind_93 : decode cX3_lineBehind 93 = .ok (.aload_n 0, 1) := by decide +kernel
theorem dX3_lineBehind_94 : decode cX3_lineBehind 94 = .ok (.aload_n 0, 1) := by decide +kernel
theorem dX3_lineBehind_95 : decode cX3_lineBehind 95 = .ok (.invokevirtual 91, 3) := by decide +kernel
theorem dX3_lineBehind_98 : decode cX3_lineBehind 98 = .ok (.iload_n 3, 1) := by decide +kernel
theorem dX3_lineBehind_99 : decode cX3_lineBehind 99 = .ok (.bipush 10, 2) := by decide +kernel
theorem dX3_lineBehind_101 : decode cX3_lineBehind 101 = .ok (.irem, 1) := by decide +kernel
theorem dX3_lineBehind_102 : decode cX3_lineBehind 102 = .ok (.i2l, 1) := by decide +kernel
theorem dX3_lineBehind_103 : decode cX3_lineBehind 103 = .ok (.invokestatic 108, 3) := by decide +kernel
theorem dX3_lineBehind_106 : decode cX3_lineBehind 106 = .ok (.invokevirtual 98, 3) := by decide +kernel
theorem dX3_lineBehind_109 : decode cX3_lineBehind 109 = .ok (.goto 34, 3) := by decide +kernel
theorem dX3_lineBehind_112 : decode cX3_lineBehind 112 = .ok (.aload_n 0, 1) := by decide +kernel
theorem dX3_lineBehind_113 : decode cX3_lineBehind 113 = .ok (.invokevirtual 91, 3) := by decide +kernel
theorem dX3_lineBehind_116 : decode cX3_lineBehind 116 = .ok (.lconst 0, 1) := by decide +kernel
theorem dX3_lineBehind_117 : decode cX3_lineBehind 117 = .ok (.lcmp, 1) := by decide +kernel
theorem dX3_lineBehind_118 : decode cX3_lineBehind 118 = .ok (.ifCond .ne 10, 3) := by decide +kernel
theorem dX3_lineBehind_121 : decode cX3_lineBehind 121 = .ok (.iload_n 3, 1) := by decide +kernel
theorem dX3_lineBehind_122 : decode cX3_lineBehind 122 = .ok (.bipush 100, 2) := by decide +kernel
theorem dX3_lineBehind_124 : decode cX3_lineBehind 124 = .ok (.idiv, 1) := by decide +kernel
theorem dX3_lineBehind_125 : decode cX3_lineBehind 125 = .ok (.goto 6, 3) := by decide +kernel
theorem dX3_lineBehind_128 : decode cX3_lineBehind 128 = .ok (.iload_n 1, 1) := by decide +kernel
theorem dX3_lineBehind_129 : decode cX3_lineBehind 129 = .ok (.iconst 1, 1) := by decide +kernel
theorem dX3_lineBehind_130 : decode cX3_lineBehind 130 = .ok (.iadd, 1) := by decide +kernel
theorem dX3_lineBehind_131 : decode cX3_lineBehind 131 = .ok (.ireturn, 1) := by decide +kernel
theorem dX3_lineBehind_132 : decode cX3_lineBehind 132 = .ok (.iload_n 3, 1) := by decide +kernel
theorem dX3_lineBehind_133 : decode cX3_lineBehind 133 = .ok (.bipush 100, 2) := by decide +kernel
theorem dX3_lineBehind_135 : decode cX3_lineBehind 135 = .ok (.idiv, 1) := by decide +kernel
theorem dX3_lineBehind_136 : decode cX3_lineBehind 136 = .ok (.ireturn, 1) := by decide +kernel
theorem dX3_lineBehind_137 : decode cX3_lineBehind 137 = .ok (.aload_n 0, 1) := by decide +kernel
theorem dX3_lineBehind_138 : decode cX3_lineBehind 138 = .ok (.iload 4, 2) := by decide +kernel
theorem dX3_lineBehind_140 : decode cX3_lineBehind 140 = .ok (.invokevirtual 112, 3) := by decide +kernel
theorem dX3_lineBehind_143 : decode cX3_lineBehind 143 = .ok (.iload_n 1, 1) := by decide +kernel
theorem dX3_lineBehind_144 : decode cX3_lineBehind 144 = .ok (.iconst 1, 1) := by decide +kernel
theorem dX3_lineBehind_145 : decode cX3_lineBehind 145 = .ok (.iadd, 1) := by decide +kernel
theorem dX3_lineBehind_146 : decode cX3_lineBehind 146 = .ok (.ireturn, 1) := by decide +kernel
theorem dX3_calculate_0 : decode cX3_calculate 0 = .ok (.aload_n 0, 1) := by decide +kernel
theorem dX3_calculate_1 : decode cX3_calculate 1 = .ok (.invokevirtual 91, 3) := by decide +kernel
theorem dX3_calculate_4 : decode cX3_calculate 4 = .ok (.lstore_n 2, 1) := by decide +kernel
theorem dX3_calculate_5 : decode cX3_calculate 5 = .ok (.iload_n 1, 1) := by decide +kernel
theorem dX3_calculate_6 : decode cX3_calculate 6 = .ok (.tableswitch 61 2 4 #[26, 35, 48], 26) := by decide +kernel
theorem dX3_calculate_32 : decode cX3_calculate 32 = .ok (.aload_n 0, 1) := by decide +kernel
theorem dX3_calculate_33 : decode cX3_calculate 33 = .ok (.lload_n 2, 1) := by decide +kernel
theorem dX3_calculate_34 : decode cX3_calculate 34 = .ok (.lneg, 1) := by decide +kernel
theorem dX3_calculate_35 : decode cX3_calculate 35 = .ok (.invokevirtual 98, 3) := by decide +kernel
theorem dX3_calculate_38 : decode cX3_calculate 38 = .ok (.goto 39, 3) := by decide +kernel
theorem dX3_calculate_41 : decode cX3_calculate 41 = .ok (.aload_n 0, 1) := by decide +kernel
theorem dX3_calculate_42 : decode cX3_calculate 42 = .ok (.aload_n 0, 1) := by decide +kernel
theorem dX3_calculate_43 : decode cX3_calculate 43 = .ok (.invokevirtual 91, 3) := by decide +kernel
theorem dX3_calculate_46 : decode cX3_calculate 46 = .ok (.lload_n 2, 1) := by decide +kernel
theorem dX3_calculate_47 : decode cX3_calculate 47 = .ok (.ladd, 1) := by decide +kernel
theorem dX3_calculate_48 : decode cX3_calculate 48 = .ok (.invokevirtual 98, 3) := by decide +kernel
theorem dX3_calculate_51 : decode cX3_calculate 51 = .ok (.goto 26, 3) := by decide +kernel
theorem dX3_calculate_54 : decode cX3_calculate 54 = .ok (.aload_n 0, 1) := by decide +kernel
theorem dX3_calculate_55 : decode cX3_calculate 55 = .ok (.aload_n 0, 1) := by decide +kernel
theorem dX3_calculate_56 : decode cX3_calculate 56 = .ok (.invokevirtual 91, 3) := by decide +kernel
theorem dX3_calculate_59 : decode cX3_calculate 59 = .ok (.lload_n 2, 1) := by decide +kernel
theorem dX3_calculate_60 : decode cX3_calculate 60 = .ok (.lmul, 1) := by decide +kernel
theorem dX3_calculate_61 : decode cX3_calculate 61 = .ok (.invokevirtual 98, 3) := by decide +kernel
theorem dX3_calculate_64 : decode cX3_calculate 64 = .ok (.goto 13, 3) := by decide +kernel
theorem dX3_calculate_67 : decode cX3_calculate 67 = .ok (.aload_n 0, 1) := by decide +kernel
theorem dX3_calculate_68 : decode cX3_calculate 68 = .ok (.lload_n 2, 1) := by decide +kernel
theorem dX3_calculate_69 : decode cX3_calculate 69 = .ok (.invokevirtual 98, 3) := by decide +kernel
theorem dX3_calculate_72 : decode cX3_calculate 72 = .ok (.aload_n 0, 1) := by decide +kernel
theorem dX3_calculate_73 : decode cX3_calculate 73 = .ok (.lload_n 2, 1) := by decide +kernel
theorem dX3_calculate_74 : decode cX3_calculate 74 = .ok (.invokevirtual 98, 3) := by decide +kernel
theorem dX3_calculate_77 : decode cX3_calculate 77 = .ok (.return_, 1) := by decide +kernel
theorem dX4_init_0 : decode cX4_init 0 = .ok (.aload_n 0, 1) := by decide +kernel
theorem dX4_init_1 : decode cX4_init 1 = .ok (.invokespecial 3, 3) := by decide +kernel
theorem dX4_init_4 : decode cX4_init 4 = .ok (.aload_n 0, 1) := by decide +kernel
theorem dX4_init_5 : decode cX4_init 5 = .ok (.sipush 4800, 3) := by decide +kernel
theorem dX4_init_8 : decode cX4_init 8 = .ok (.newarray .byte, 2) := by decide +kernel
theorem dX4_init_10 : decode cX4_init 10 = .ok (.putfield 11, 3) := by decide +kernel
theorem dX4_init_13 : decode cX4_init 13 = .ok (.aload_n 0, 1) := by decide +kernel
theorem dX4_init_14 : decode cX4_init 14 = .ok (.sipush 1600, 3) := by decide +kernel
theorem dX4_init_17 : decode cX4_init 17 = .ok (.newarray .int, 2) := by decide +kernel
theorem dX4_init_19 : decode cX4_init 19 = .ok (.putfield 15, 3) := by decide +kernel
theorem dX4_init_22 : decode cX4_init 22 = .ok (.aload_n 0, 1) := by decide +kernel
theorem dX4_init_23 : decode cX4_init 23 = .ok (.bipush 20, 2) := by decide +kernel
theorem dX4_init_25 : decode cX4_init 25 = .ok (.newarray .int, 2) := by decide +kernel
theorem dX4_init_27 : decode cX4_init 27 = .ok (.putfield 19, 3) := by decide +kernel
theorem dX4_init_30 : decode cX4_init 30 = .ok (.return_, 1) := by decide +kernel
theorem dX4_byteAt_0 : decode cX4_byteAt 0 = .ok (.iload_n 1, 1) := by decide +kernel
theorem dX4_byteAt_1 : decode cX4_byteAt 1 = .ok (.ifCond .lt 20, 3) := by decide +kernel
theorem dX4_byteAt_4 : decode cX4_byteAt 4 = .ok (.iload_n 1, 1) := by decide +kernel
theorem dX4_byteAt_5 : decode cX4_byteAt 5 = .ok (.aload_n 0, 1) := by decide +kernel
theorem dX4_byteAt_6 : decode cX4_byteAt 6 = .ok (.getfield 22, 3) := by decide +kernel
theorem dX4_byteAt_9 : decode cX4_byteAt 9 = .ok (.if_icmp .ge 12, 3) := by decide +kernel
theorem dX4_byteAt_12 : decode cX4_byteAt 12 = .ok (.aload_n 0, 1) := by decide +kernel
theorem dX4_byteAt_13 : decode cX4_byteAt 13 = .ok (.getfield 11, 3) := by decide +kernel
theorem dX4_byteAt_16 : decode cX4_byteAt 16 = .ok (.iload_n 1, 1) := by decide +kernel
theorem dX4_byteAt_17 : decode cX4_byteAt 17 = .ok (.baload, 1) := by decide +kernel
theorem dX4_byteAt_18 : decode cX4_byteAt 18 = .ok (.goto 4, 3) := by decide +kernel
theorem dX4_byteAt_21 : decode cX4_byteAt 21 = .ok (.iconst 0, 1) := by decide +kernel
theorem dX4_byteAt_22 : decode cX4_byteAt 22 = .ok (.ireturn, 1) := by decide +kernel
theorem dX4_printed_0 : decode cX4_printed 0 = .ok (.aload_n 0, 1) := by decide +kernel
theorem dX4_printed_1 : decode cX4_printed 1 = .ok (.iconst 0, 1) := by decide +kernel
theorem dX4_printed_2 : decode cX4_printed 2 = .ok (.putfield 22, 3) := by decide +kernel
theorem dX4_printed_5 : decode cX4_printed 5 = .ok (.aload_n 0, 1) := by decide +kernel
theorem dX4_printed_6 : decode cX4_printed 6 = .ok (.iconst 0, 1) := by decide +kernel
theorem dX4_printed_7 : decode cX4_printed 7 = .ok (.putfield 26, 3) := by decide +kernel
theorem dX4_printed_10 : decode cX4_printed 10 = .ok (.aload_n 0, 1) := by decide +kernel
theorem dX4_printed_11 : decode cX4_printed 11 = .ok (.iconst 0, 1) := by decide +kernel
theorem dX4_printed_12 : decode cX4_printed 12 = .ok (.iconst 4, 1) := by decide +kernel
theorem dX4_printed_13 : decode cX4_printed 13 = .ok (.invokevirtual 29, 3) := by decide +kernel
theorem dX4_printed_16 : decode cX4_printed 16 = .ok (.iconst 0, 1) := by decide +kernel
theorem dX4_printed_17 : decode cX4_printed 17 = .ok (.istore_n 2, 1) := by decide +kernel
theorem dX4_printed_18 : decode cX4_printed 18 = .ok (.iload_n 2, 1) := by decide +kernel
theorem dX4_printed_19 : decode cX4_printed 19 = .ok (.sipush 1600, 3) := by decide +kernel
theorem dX4_printed_22 : decode cX4_printed 22 = .ok (.if_icmp .ge 60, 3) := by decide +kernel
theorem dX4_printed_25 : decode cX4_printed 25 = .ok (.aload_n 0, 1) := by decide +kernel
theorem dX4_printed_26 : decode cX4_printed 26 = .ok (.getfield 26, 3) := by decide +kernel
theorem dX4_printed_29 : decode cX4_printed 29 = .ok (.ifCond .le 53, 3) := by decide +kernel
theorem dX4_printed_32 : decode cX4_printed 32 = .ok (.aload_n 0, 1) := by decide +kernel
theorem dX4_printed_33 : decode cX4_printed 33 = .ok (.dup, 1) := by decide +kernel
theorem dX4_printed_34 : decode cX4_printed 34 = .ok (.getfield 26, 3) := by decide +kernel
theorem dX4_printed_37 : decode cX4_printed 37 = .ok (.iconst 1, 1) := by decide +kernel
theorem dX4_printed_38 : decode cX4_printed 38 = .ok (.isub, 1) := by decide +kernel
theorem dX4_printed_39 : decode cX4_printed 39 = .ok (.putfield 26, 3) := by decide +kernel
theorem dX4_printed_42 : decode cX4_printed 42 = .ok (.aload_n 0, 1) := by decide +kernel
theorem dX4_printed_43 : decode cX4_printed 43 = .ok (.getfield 15, 3) := by decide +kernel
theorem dX4_printed_46 : decode cX4_printed 46 = .ok (.aload_n 0, 1) := by decide +kernel
theorem dX4_printed_47 : decode cX4_printed 47 = .ok (.getfield 26, 3) := by decide +kernel
theorem dX4_printed_50 : decode cX4_printed 50 = .ok (.iaload, 1) := by decide +kernel
theorem dX4_printed_51 : decode cX4_printed 51 = .ok (.istore_n 3, 1) := by decide +kernel
theorem dX4_printed_52 : decode cX4_printed 52 = .ok (.iload_n 3, 1) := by decide +kernel
theorem dX4_printed_53 : decode cX4_printed 53 = .ok (.ifCond .ge 12, 3) := by decide +kernel
theorem dX4_printed_56 : decode cX4_printed 56 = .ok (.aload_n 0, 1) := by decide +kernel
theorem dX4_printed_57 : decode cX4_printed 57 = .ok (.iload_n 3, 1) := by decide +kernel
theorem dX4_printed_58 : decode cX4_printed 58 = .ok (.ineg, 1) := by decide +kernel
theorem dX4_printed_59 : decode cX4_printed 59 = .ok (.invokevirtual 33, 3) := by decide +kernel
theorem dX4_printed_62 : decode cX4_printed 62 = .ok (.goto 14, 3) := by decide +kernel
theorem dX4_printed_65 : decode cX4_printed 65 = .ok (.aload_n 0, 1) := by decide +kernel
theorem dX4_printed_66 : decode cX4_printed 66 = .ok (.aload_n 1, 1) := by decide +kernel
theorem dX4_printed_67 : decode cX4_printed 67 = .ok (.iload_n 3, 1) := by decide +kernel
theorem dX4_printed_68 : decode cX4_printed 68 = .ok (.iconst 5, 1) := by decide +kernel
theorem dX4_printed_69 : decode cX4_printed 69 = .ok (.idiv, 1) := by decide +kernel
theorem dX4_printed_70 : decode cX4_printed 70 = .ok (.iload_n 3, 1) := by decide +kernel
theorem dX4_printed_71 : decode cX4_printed 71 = .ok (.iconst 5, 1) := by decide +kernel
theorem dX4_printed_72 : decode cX4_printed 72 = .ok (.irem, 1) := by decide +kernel
theorem dX4_printed_73 : decode cX4_printed 73 = .ok (.invokevirtual 37, 3) := by decide +kernel
theorem dX4_printed_76 : decode cX4_printed 76 = .ok (.iinc 2 1, 3) := by decide +kernel
theorem dX4_printed_79 : decode cX4_printed 79 = .ok (.goto (-61), 3) := by decide +kernel
theorem dX4_printed_82 : decode cX4_printed 82 = .ok (.aload_n 0, 1) := by decide +kernel
theorem dX4_printed_83 : decode cX4_printed 83 = .ok (.getfield 22, 3) := by decide +kernel
theorem dX4_printed_86 : decode cX4_printed 86 = .ok (.ireturn, 1) := by decide +kernel
theorem dX4_put_0 : decode cX4_put 0 = .ok (.aload_n 0, 1) := by decide +kernel
theorem dX4_put_1 : decode cX4_put 1 = .ok (.getfield 22, 3) := by decide +kernel
theorem dX4_put_4 : decode cX4_put 4 = .ok (.sipush 4800, 3) := by decide +kernel
theorem dX4_put_7 : decode cX4_put 7 = .ok (.if_icmp .ge 24, 3) := by decide +kernel
theorem dX4_put_10 : decode cX4_put 10 = .ok (.aload_n 0, 1) := by decide +kernel
theorem dX4_put_11 : decode cX4_put 11 = .ok (.getfield 11, 3) := by decide +kernel
theorem dX4_put_14 : decode cX4_put 14 = .ok (.aload_n 0, 1) := by decide +kernel
theorem dX4_put_15 : decode cX4_put 15 = .ok (.getfield 22, 3) := by decide +kernel
theorem dX4_put_18 : decode cX4_put 18 = .ok (.iload_n 1, 1) := by decide +kernel
theorem dX4_put_19 : decode cX4_put 19 = .ok (.i2b, 1) := by decide +kernel
theorem dX4_put_20 : decode cX4_put 20 = .ok (.bastore, 1) := by decide +kernel
theorem dX4_put_21 : decode cX4_put 21 = .ok (.aload_n 0, 1) := by decide +kernel
theorem dX4_put_22 : decode cX4_put 22 = .ok (.dup, 1) := by decide +kernel
theorem dX4_put_23 : decode cX4_put 23 = .ok (.getfield 22, 3) := by decide +kernel
theorem dX4_put_26 : decode cX4_put 26 = .ok (.iconst 1, 1) := by decide +kernel
theorem dX4_put_27 : decode cX4_put 27 = .ok (.iadd, 1) := by decide +kernel
theorem dX4_put_28 : decode cX4_put 28 = .ok (.putfield 22, 3) := by decide +kernel
theorem dX4_put_31 : decode cX4_put 31 = .ok (.return_, 1) := by decide +kernel
theorem dX4_later_0 : decode cX4_later 0 = .ok (.aload_n 0, 1) := by decide +kernel
theorem dX4_later_1 : decode cX4_later 1 = .ok (.getfield 26, 3) := by decide +kernel
theorem dX4_later_4 : decode cX4_later 4 = .ok (.sipush 1600, 3) := by decide +kernel
theorem dX4_later_7 : decode cX4_later 7 = .ok (.if_icmp .ge 23, 3) := by decide +kernel
theorem dX4_later_10 : decode cX4_later 10 = .ok (.aload_n 0, 1) := by decide +kernel
theorem dX4_later_11 : decode cX4_later 11 = .ok (.getfield 15, 3) := by decide +kernel
theorem dX4_later_14 : decode cX4_later 14 = .ok (.aload_n 0, 1) := by decide +kernel
theorem dX4_later_15 : decode cX4_later 15 = .ok (.getfield 26, 3) := by decide +kernel
theorem dX4_later_18 : decode cX4_later 18 = .ok (.iload_n 1, 1) := by decide +kernel
theorem dX4_later_19 : decode cX4_later 19 = .ok (.iastore, 1) := by decide +kernel
theorem dX4_later_20 : decode cX4_later 20 = .ok (.aload_n 0, 1) := by decide +kernel
theorem dX4_later_21 : decode cX4_later 21 = .ok (.dup, 1) := by decide +kernel
theorem dX4_later_22 : decode cX4_later 22 = .ok (.getfield 26, 3) := by decide +kernel
theorem dX4_later_25 : decode cX4_later 25 = .ok (.iconst 1, 1) := by decide +kernel
theorem dX4_later_26 : decode cX4_later 26 = .ok (.iadd, 1) := by decide +kernel
theorem dX4_later_27 : decode cX4_later 27 = .ok (.putfield 26, 3) := by decide +kernel
theorem dX4_later_30 : decode cX4_later 30 = .ok (.return_, 1) := by decide +kernel
theorem dX4_laterSign_0 : decode cX4_laterSign 0 = .ok (.aload_n 0, 1) := by decide +kernel
theorem dX4_laterSign_1 : decode cX4_laterSign 1 = .ok (.iload_n 1, 1) := by decide +kernel
theorem dX4_laterSign_2 : decode cX4_laterSign 2 = .ok (.ineg, 1) := by decide +kernel
theorem dX4_laterSign_3 : decode cX4_laterSign 3 = .ok (.invokevirtual 41, 3) := by decide +kernel
theorem dX4_laterSign_6 : decode cX4_laterSign 6 = .ok (.return_, 1) := by decide +kernel
theorem dX4_laterTree_0 : decode cX4_laterTree 0 = .ok (.aload_n 0, 1) := by decide +kernel
theorem dX4_laterTree_1 : decode cX4_laterTree 1 = .ok (.iload_n 1, 1) := by decide +kernel
theorem dX4_laterTree_2 : decode cX4_laterTree 2 = .ok (.iconst 5, 1) := by decide +kernel
theorem dX4_laterTree_3 : decode cX4_laterTree 3 = .ok (.imul, 1) := by decide +kernel
theorem dX4_laterTree_4 : decode cX4_laterTree 4 = .ok (.iload_n 2, 1) := by decide +kernel
theorem dX4_laterTree_5 : decode cX4_laterTree 5 = .ok (.iadd, 1) := by decide +kernel
theorem dX4_laterTree_6 : decode cX4_laterTree 6 = .ok (.invokevirtual 41, 3) := by decide +kernel
theorem dX4_laterTree_9 : decode cX4_laterTree 9 = .ok (.return_, 1) := by decide +kernel
theorem dX4_putTree_0 : decode cX4_putTree 0 = .ok (.aload_n 1, 1) := by decide +kernel
theorem dX4_putTree_1 : decode cX4_putTree 1 = .ok (.iload_n 2, 1) := by decide +kernel
theorem dX4_putTree_2 : decode cX4_putTree 2 = .ok (.invokevirtual 44, 3) := by decide +kernel
theorem dX4_putTree_5 : decode cX4_putTree 5 = .ok (.istore 4, 2) := by decide +kernel
theorem dX4_putTree_7 : decode cX4_putTree 7 = .ok (.iload 4, 2) := by decide +kernel
theorem dX4_putTree_9 : decode cX4_putTree 9 = .ok (.invokestatic 50, 3) := by decide +kernel
theorem dX4_putTree_12 : decode cX4_putTree 12 = .ok (.ifCond .eq 25, 3) := by decide +kernel
theorem dX4_putTree_15 : decode cX4_putTree 15 = .ok (.getstatic 54, 3) := by decide +kernel
theorem dX4_putTree_18 : decode cX4_putTree 18 = .ok (.iload 4, 2) := by decide +kernel
theorem dX4_putTree_20 : decode cX4_putTree 20 = .ok (.iaload, 1) := by decide +kernel
theorem dX4_putTree_21 : decode cX4_putTree 21 = .ok (.iload_n 3, 1) := by decide +kernel
theorem dX4_putTree_22 : decode cX4_putTree 22 = .ok (.if_icmp .le 15, 3) := by decide +kernel
theorem dX4_putTree_25 : decode cX4_putTree 25 = .ok (.aload_n 0, 1) := by decide +kernel
theorem dX4_putTree_26 : decode cX4_putTree 26 = .ok (.bipush 40, 2) := by decide +kernel
theorem dX4_putTree_28 : decode cX4_putTree 28 = .ok (.invokevirtual 33, 3) := by decide +kernel
theorem dX4_putTree_31 : decode cX4_putTree 31 = .ok (.aload_n 0, 1) := by decide +kernel
theorem dX4_putTree_32 : decode cX4_putTree 32 = .ok (.bipush 41, 2) := by decide +kernel
theorem dX4_putTree_34 : decode cX4_putTree 34 = .ok (.invokevirtual 57, 3) := by decide +kernel
theorem dX4_putTree_37 : decode cX4_putTree 37 = .ok (.aload_n 0, 1) := by decide +kernel
theorem dX4_putTree_38 : decode cX4_putTree 38 = .ok (.aload_n 1, 1) := by decide +kernel
theorem dX4_putTree_39 : decode cX4_putTree 39 = .ok (.iload_n 2, 1) := by decide +kernel
theorem dX4_putTree_40 : decode cX4_putTree 40 = .ok (.iload 4, 2) := by decide +kernel
theorem dX4_putTree_42 : decode cX4_putTree 42 = .ok (.invokevirtual 60, 3) := by decide +kernel
theorem dX4_putTree_45 : decode cX4_putTree 45 = .ok (.return_, 1) := by decide +kernel
theorem dX4_putOpenTree_0 : decode cX4_putOpenTree 0 = .ok (.iload_n 3, 1) := by decide +kernel
theorem dX4_putOpenTree_1 : decode cX4_putOpenTree 1 = .ok (.tableswitch 213 0 6 #[43, 55, 71, 88, 110, 138, 168], 43) := by decide +kernel
theorem dX4_putOpenTree_44 : decode cX4_putOpenTree 44 = .ok (.aload_n 0, 1) := by decide +kernel
theorem dX4_putOpenTree_45 : decode cX4_putOpenTree 45 = .ok (.aload_n 1, 1) := by decide +kernel
theorem dX4_putOpenTree_46 : decode cX4_putOpenTree 46 = .ok (.iload_n 2, 1) := by decide +kernel
theorem dX4_putOpenTree_47 : decode cX4_putOpenTree 47 = .ok (.invokevirtual 63, 3) := by decide +kernel
theorem dX4_putOpenTree_50 : decode cX4_putOpenTree 50 = .ok (.invokevirtual 67, 3) := by decide +kernel
theorem dX4_putOpenTree_53 : decode cX4_putOpenTree 53 = .ok (.goto 181, 3) := by decide +kernel
theorem dX4_putOpenTree_56 : decode cX4_putOpenTree 56 = .ok (.aload_n 0, 1) := by decide +kernel
theorem dX4_putOpenTree_57 : decode cX4_putOpenTree 57 = .ok (.bipush 97, 2) := by decide +kernel
theorem dX4_putOpenTree_59 : decode cX4_putOpenTree 59 = .ok (.aload_n 1, 1) := by decide +kernel
theorem dX4_putOpenTree_60 : decode cX4_putOpenTree 60 = .ok (.iload_n 2, 1) := by decide +kernel
theorem dX4_putOpenTree_61 : decode cX4_putOpenTree 61 = .ok (.invokevirtual 63, 3) := by decide +kernel
theorem dX4_putOpenTree_64 : decode cX4_putOpenTree 64 = .ok (.l2i, 1) := by decide +kernel
theorem dX4_putOpenTree_65 : decode cX4_putOpenTree 65 = .ok (.iadd, 1) := by decide +kernel
theorem dX4_putOpenTree_66 : decode cX4_putOpenTree 66 = .ok (.invokevirtual 33, 3) := by decide +kernel
theorem dX4_putOpenTree_69 : decode cX4_putOpenTree 69 = .ok (.goto 165, 3) := by decide +kernel
theorem dX4_putOpenTree_72 : decode cX4_putOpenTree 72 = .ok (.aload_n 0, 1) := by decide +kernel
theorem dX4_putOpenTree_73 : decode cX4_putOpenTree 73 = .ok (.bipush 45, 2) := by decide +kernel
theorem dX4_putOpenTree_75 : decode cX4_putOpenTree 75 = .ok (.invokevirtual 33, 3) := by decide +kernel
theorem dX4_putOpenTree_78 : decode cX4_putOpenTree 78 = .ok (.aload_n 0, 1) := by decide +kernel
theorem dX4_putOpenTree_79 : decode cX4_putOpenTree 79 = .ok (.iload_n 2, 1) := by decide +kernel
theorem dX4_putOpenTree_80 : decode cX4_putOpenTree 80 = .ok (.iconst 1, 1) := by decide +kernel
theorem dX4_putOpenTree_81 : decode cX4_putOpenTree 81 = .ok (.iadd, 1) := by decide +kernel
theorem dX4_putOpenTree_82 : decode cX4_putOpenTree 82 = .ok (.iconst 0, 1) := by decide +kernel
theorem dX4_putOpenTree_83 : decode cX4_putOpenTree 83 = .ok (.invokevirtual 29, 3) := by decide +kernel
theorem dX4_putOpenTree_86 : decode cX4_putOpenTree 86 = .ok (.goto 148, 3) := by decide +kernel
theorem dX4_putOpenTree_89 : decode cX4_putOpenTree 89 = .ok (.aload_n 0, 1) := by decide +kernel
theorem dX4_putOpenTree_90 : decode cX4_putOpenTree 90 = .ok (.aload_n 1, 1) := by decide +kernel
theorem dX4_putOpenTree_91 : decode cX4_putOpenTree 91 = .ok (.aload_n 1, 1) := by decide +kernel
theorem dX4_putOpenTree_92 : decode cX4_putOpenTree 92 = .ok (.iload_n 2, 1) := by decide +kernel
theorem dX4_putOpenTree_93 : decode cX4_putOpenTree 93 = .ok (.iconst 1, 1) := by decide +kernel
theorem dX4_putOpenTree_94 : decode cX4_putOpenTree 94 = .ok (.invokevirtual 71, 3) := by decide +kernel
theorem dX4_putOpenTree_97 : decode cX4_putOpenTree 97 = .ok (.invokevirtual 75, 3) := by decide +kernel
theorem dX4_putOpenTree_100 : decode cX4_putOpenTree 100 = .ok (.aload_n 0, 1) := by decide +kernel
theorem dX4_putOpenTree_101 : decode cX4_putOpenTree 101 = .ok (.iload_n 2, 1) := by decide +kernel
theorem dX4_putOpenTree_102 : decode cX4_putOpenTree 102 = .ok (.iconst 1, 1) := by decide +kernel
theorem dX4_putOpenTree_103 : decode cX4_putOpenTree 103 = .ok (.iadd, 1) := by decide +kernel
theorem dX4_putOpenTree_104 : decode cX4_putOpenTree 104 = .ok (.iconst 3, 1) := by decide +kernel
theorem dX4_putOpenTree_105 : decode cX4_putOpenTree 105 = .ok (.invokevirtual 29, 3) := by decide +kernel
theorem dX4_putOpenTree_108 : decode cX4_putOpenTree 108 = .ok (.goto 126, 3) := by decide +kernel
theorem dX4_putOpenTree_111 : decode cX4_putOpenTree 111 = .ok (.aload_n 0, 1) := by decide +kernel
theorem dX4_putOpenTree_112 : decode cX4_putOpenTree 112 = .ok (.aload_n 1, 1) := by decide +kernel
theorem dX4_putOpenTree_113 : decode cX4_putOpenTree 113 = .ok (.iload_n 2, 1) := by decide +kernel
theorem dX4_putOpenTree_114 : decode cX4_putOpenTree 114 = .ok (.iconst 1, 1) := by decide +kernel
theorem dX4_putOpenTree_115 : decode cX4_putOpenTree 115 = .ok (.invokevirtual 71, 3) := by decide +kernel
theorem dX4_putOpenTree_118 : decode cX4_putOpenTree 118 = .ok (.iconst 1, 1) := by decide +kernel
theorem dX4_putOpenTree_119 : decode cX4_putOpenTree 119 = .ok (.invokevirtual 29, 3) := by decide +kernel
theorem dX4_putOpenTree_122 : decode cX4_putOpenTree 122 = .ok (.aload_n 0, 1) := by decide +kernel
theorem dX4_putOpenTree_123 : decode cX4_putOpenTree 123 = .ok (.bipush 42, 2) := by decide +kernel
theorem dX4_putOpenTree_125 : decode cX4_putOpenTree 125 = .ok (.invokevirtual 57, 3) := by decide +kernel
theorem dX4_putOpenTree_128 : decode cX4_putOpenTree 128 = .ok (.aload_n 0, 1) := by decide +kernel
theorem dX4_putOpenTree_129 : decode cX4_putOpenTree 129 = .ok (.iload_n 2, 1) := by decide +kernel
theorem dX4_putOpenTree_130 : decode cX4_putOpenTree 130 = .ok (.iconst 1, 1) := by decide +kernel
theorem dX4_putOpenTree_131 : decode cX4_putOpenTree 131 = .ok (.iadd, 1) := by decide +kernel
theorem dX4_putOpenTree_132 : decode cX4_putOpenTree 132 = .ok (.iconst 2, 1) := by decide +kernel
theorem dX4_putOpenTree_133 : decode cX4_putOpenTree 133 = .ok (.invokevirtual 29, 3) := by decide +kernel
theorem dX4_putOpenTree_136 : decode cX4_putOpenTree 136 = .ok (.goto 98, 3) := by decide +kernel
theorem dX4_putOpenTree_139 : decode cX4_putOpenTree 139 = .ok (.aload_n 0, 1) := by decide +kernel
theorem dX4_putOpenTree_140 : decode cX4_putOpenTree 140 = .ok (.bipush 48, 2) := by decide +kernel
theorem dX4_putOpenTree_142 : decode cX4_putOpenTree 142 = .ok (.aload_n 1, 1) := by decide +kernel
theorem dX4_putOpenTree_143 : decode cX4_putOpenTree 143 = .ok (.iload_n 2, 1) := by decide +kernel
theorem dX4_putOpenTree_144 : decode cX4_putOpenTree 144 = .ok (.invokevirtual 63, 3) := by decide +kernel
theorem dX4_putOpenTree_147 : decode cX4_putOpenTree 147 = .ok (.l2i, 1) := by decide +kernel
theorem dX4_putOpenTree_148 : decode cX4_putOpenTree 148 = .ok (.iadd, 1) := by decide +kernel
theorem dX4_putOpenTree_149 : decode cX4_putOpenTree 149 = .ok (.invokevirtual 57, 3) := by decide +kernel
theorem dX4_putOpenTree_152 : decode cX4_putOpenTree 152 = .ok (.aload_n 0, 1) := by decide +kernel
theorem dX4_putOpenTree_153 : decode cX4_putOpenTree 153 = .ok (.bipush 94, 2) := by decide +kernel
theorem dX4_putOpenTree_155 : decode cX4_putOpenTree 155 = .ok (.invokevirtual 57, 3) := by decide +kernel
theorem dX4_putOpenTree_158 : decode cX4_putOpenTree 158 = .ok (.aload_n 0, 1) := by decide +kernel
theorem dX4_putOpenTree_159 : decode cX4_putOpenTree 159 = .ok (.iload_n 2, 1) := by decide +kernel
theorem dX4_putOpenTree_160 : decode cX4_putOpenTree 160 = .ok (.iconst 1, 1) := by decide +kernel
theorem dX4_putOpenTree_161 : decode cX4_putOpenTree 161 = .ok (.iadd, 1) := by decide +kernel
theorem dX4_putOpenTree_162 : decode cX4_putOpenTree 162 = .ok (.iconst 1, 1) := by decide +kernel
theorem dX4_putOpenTree_163 : decode cX4_putOpenTree 163 = .ok (.invokevirtual 29, 3) := by decide +kernel
theorem dX4_putOpenTree_166 : decode cX4_putOpenTree 166 = .ok (.goto 68, 3) := by decide +kernel
theorem dX4_putOpenTree_169 : decode cX4_putOpenTree 169 = .ok (.aload_n 0, 1) := by decide +kernel
theorem dX4_putOpenTree_170 : decode cX4_putOpenTree 170 = .ok (.aload_n 1, 1) := by decide +kernel
theorem dX4_putOpenTree_171 : decode cX4_putOpenTree 171 = .ok (.iload_n 2, 1) := by decide +kernel
theorem dX4_putOpenTree_172 : decode cX4_putOpenTree 172 = .ok (.iconst 2, 1) := by decide +kernel
theorem dX4_putOpenTree_173 : decode cX4_putOpenTree 173 = .ok (.invokevirtual 71, 3) := by decide +kernel
theorem dX4_putOpenTree_176 : decode cX4_putOpenTree 176 = .ok (.iconst 3, 1) := by decide +kernel
theorem dX4_putOpenTree_177 : decode cX4_putOpenTree 177 = .ok (.invokevirtual 29, 3) := by decide +kernel
theorem dX4_putOpenTree_180 : decode cX4_putOpenTree 180 = .ok (.aload_n 0, 1) := by decide +kernel
theorem dX4_putOpenTree_181 : decode cX4_putOpenTree 181 = .ok (.bipush 58, 2) := by decide +kernel
theorem dX4_putOpenTree_183 : decode cX4_putOpenTree 183 = .ok (.invokevirtual 57, 3) := by decide +kernel
theorem dX4_putOpenTree_186 : decode cX4_putOpenTree 186 = .ok (.aload_n 0, 1) := by decide +kernel
theorem dX4_putOpenTree_187 : decode cX4_putOpenTree 187 = .ok (.aload_n 1, 1) := by decide +kernel
theorem dX4_putOpenTree_188 : decode cX4_putOpenTree 188 = .ok (.iload_n 2, 1) := by decide +kernel
theorem dX4_putOpenTree_189 : decode cX4_putOpenTree 189 = .ok (.iconst 1, 1) := by decide +kernel
theorem dX4_putOpenTree_190 : decode cX4_putOpenTree 190 = .ok (.invokevirtual 71, 3) := by decide +kernel
theorem dX4_putOpenTree_193 : decode cX4_putOpenTree 193 = .ok (.iconst 3, 1) := by decide +kernel
theorem dX4_putOpenTree_194 : decode cX4_putOpenTree 194 = .ok (.invokevirtual 29, 3) := by decide +kernel
theorem dX4_putOpenTree_197 : decode cX4_putOpenTree 197 = .ok (.aload_n 0, 1) := by decide +kernel
theorem dX4_putOpenTree_198 : decode cX4_putOpenTree 198 = .ok (.bipush 63, 2) := by decide +kernel
theorem dX4_putOpenTree_200 : decode cX4_putOpenTree 200 = .ok (.invokevirtual 57, 3) := by decide +kernel
theorem dX4_putOpenTree_203 : decode cX4_putOpenTree 203 = .ok (.aload_n 0, 1) := by decide +kernel
theorem dX4_putOpenTree_204 : decode cX4_putOpenTree 204 = .ok (.iload_n 2, 1) := by decide +kernel
theorem dX4_putOpenTree_205 : decode cX4_putOpenTree 205 = .ok (.iconst 1, 1) := by decide +kernel
theorem dX4_putOpenTree_206 : decode cX4_putOpenTree 206 = .ok (.iadd, 1) := by decide +kernel
theorem dX4_putOpenTree_207 : decode cX4_putOpenTree 207 = .ok (.iconst 3, 1) := by decide +kernel
theorem dX4_putOpenTree_208 : decode cX4_putOpenTree 208 = .ok (.invokevirtual 29, 3) := by decide +kernel
theorem dX4_putOpenTree_211 : decode cX4_putOpenTree 211 = .ok (.goto 23, 3) := by decide +kernel
theorem dX4_putOpenTree_214 : decode cX4_putOpenTree 214 = .ok (.aload_n 0, 1) := by decide +kernel
theorem dX4_putOpenTree_215 : decode cX4_putOpenTree 215 = .ok (.bipush 91, 2) := by decide +kernel
theorem dX4_putOpenTree_217 : decode cX4_putOpenTree 217 = .ok (.invokevirtual 33, 3) := by decide +kernel
theorem dX4_putOpenTree_220 : decode cX4_putOpenTree 220 = .ok (.aload_n 0, 1) := by decide +kernel
theorem dX4_putOpenTree_221 : decode cX4_putOpenTree 221 = .ok (.bipush 93, 2) := by decide +kernel
theorem dX4_putOpenTree_223 : decode cX4_putOpenTree 223 = .ok (.invokevirtual 57, 3) := by decide +kernel
theorem dX4_putOpenTree_226 : decode cX4_putOpenTree 226 = .ok (.aload_n 0, 1) := by decide +kernel
theorem dX4_putOpenTree_227 : decode cX4_putOpenTree 227 = .ok (.iload_n 2, 1) := by decide +kernel
theorem dX4_putOpenTree_228 : decode cX4_putOpenTree 228 = .ok (.iconst 1, 1) := by decide +kernel
theorem dX4_putOpenTree_229 : decode cX4_putOpenTree 229 = .ok (.iadd, 1) := by decide +kernel
theorem dX4_putOpenTree_230 : decode cX4_putOpenTree 230 = .ok (.iconst 4, 1) := by decide +kernel
theorem dX4_putOpenTree_231 : decode cX4_putOpenTree 231 = .ok (.invokevirtual 29, 3) := by decide +kernel
theorem dX4_putOpenTree_234 : decode cX4_putOpenTree 234 = .ok (.return_, 1) := by decide +kernel
theorem dX4_laterSecondOfSum_0 : decode cX4_laterSecondOfSum 0 = .ok (.aload_n 1, 1) := by decide +kernel
theorem dX4_laterSecondOfSum_1 : decode cX4_laterSecondOfSum 1 = .ok (.iload_n 2, 1) := by decide +kernel
theorem dX4_laterSecondOfSum_2 : decode cX4_laterSecondOfSum 2 = .ok (.invokevirtual 44, 3) := by decide +kernel
theorem dX4_laterSecondOfSum_5 : decode cX4_laterSecondOfSum 5 = .ok (.iconst 2, 1) := by decide +kernel
theorem dX4_laterSecondOfSum_6 : decode cX4_laterSecondOfSum 6 = .ok (.if_icmp .ne 20, 3) := by decide +kernel
theorem dX4_laterSecondOfSum_9 : decode cX4_laterSecondOfSum 9 = .ok (.aload_n 0, 1) := by decide +kernel
theorem dX4_laterSecondOfSum_10 : decode cX4_laterSecondOfSum 10 = .ok (.iload_n 2, 1) := by decide +kernel
theorem dX4_laterSecondOfSum_11 : decode cX4_laterSecondOfSum 11 = .ok (.iconst 1, 1) := by decide +kernel
theorem dX4_laterSecondOfSum_12 : decode cX4_laterSecondOfSum 12 = .ok (.iadd, 1) := by decide +kernel
theorem dX4_laterSecondOfSum_13 : decode cX4_laterSecondOfSum 13 = .ok (.iconst 2, 1) := by decide +kernel
theorem dX4_laterSecondOfSum_14 : decode cX4_laterSecondOfSum 14 = .ok (.invokevirtual 29, 3) := by decide +kernel
theorem dX4_laterSecondOfSum_17 : decode cX4_laterSecondOfSum 17 = .ok (.aload_n 0, 1) := by decide +kernel
theorem dX4_laterSecondOfSum_18 : decode cX4_laterSecondOfSum 18 = .ok (.bipush 45, 2) := by decide +kernel
theorem dX4_laterSecondOfSum_20 : decode cX4_laterSecondOfSum 20 = .ok (.invokevirtual 57, 3) := by decide +kernel
theorem dX4_laterSecondOfSum_23 : decode cX4_laterSecondOfSum 23 = .ok (.goto 15, 3) := by decide +kernel
theorem dX4_laterSecondOfSum_26 : decode cX4_laterSecondOfSum 26 = .ok (.aload_n 0, 1) := by decide +kernel
theorem dX4_laterSecondOfSum_27 : decode cX4_laterSecondOfSum 27 = .ok (.iload_n 2, 1) := by decide +kernel
theorem dX4_laterSecondOfSum_28 : decode cX4_laterSecondOfSum 28 = .ok (.iconst 2, 1) := by decide +kernel
theorem dX4_laterSecondOfSum_29 : decode cX4_laterSecondOfSum 29 = .ok (.invokevirtual 29, 3) := by decide +kernel
theorem dX4_laterSecondOfSum_32 : decode cX4_laterSecondOfSum 32 = .ok (.aload_n 0, 1) := by decide +kernel
theorem dX4_laterSecondOfSum_33 : decode cX4_laterSecondOfSum 33 = .ok (.bipush 43, 2) := by decide +kernel
theorem dX4_laterSecondOfSum_35 : decode cX4_laterSecondOfSum 35 = .ok (.invokevirtual 57, 3) := by decide +kernel
theorem dX4_laterSecondOfSum_38 : decode cX4_laterSecondOfSum 38 = .ok (.return_, 1) := by decide +kernel
theorem dX4_putNumber_0 : decode cX4_putNumber 0 = .ok (.lload_n 1, 1) := by decide +kernel
theorem dX4_putNumber_1 : decode cX4_putNumber 1 = .ok (.lconst 0, 1) := by decide +kernel
theorem dX4_putNumber_2 : decode cX4_putNumber 2 = .ok (.lcmp, 1) := by decide +kernel
theorem dX4_putNumber_3 : decode cX4_putNumber 3 = .ok (.ifCond .ge 9, 3) := by decide +kernel
theorem dX4_putNumber_6 : decode cX4_putNumber 6 = .ok (.aload_n 0, 1) := by decide +kernel
theorem dX4_putNumber_7 : decode cX4_putNumber 7 = .ok (.bipush 45, 2) := by decide +kernel
theorem dX4_putNumber_9 : decode cX4_putNumber 9 = .ok (.invokevirtual 33, 3) := by decide +kernel
theorem dX4_putNumber_12 : decode cX4_putNumber 12 = .ok (.lload_n 1, 1) := by decide +kernel
theorem dX4_putNumber_13 : decode cX4_putNumber 13 = .ok (.lstore_n 3, 1) := by decide +kernel
theorem dX4_putNumber_14 : decode cX4_putNumber 14 = .ok (.iconst 0, 1) := by decide +kernel
theorem dX4_putNumber_15 : decode cX4_putNumber 15 = .ok (.istore 5, 2) := by decide +kernel
theorem dX4_putNumber_17 : decode cX4_putNumber 17 = .ok (.iconst 0, 1) := by decide +kernel
theorem dX4_putNumber_18 : decode cX4_putNumber 18 = .ok (.istore 6, 2) := by decide +kernel
theorem dX4_putNumber_20 : decode cX4_putNumber 20 = .ok (.iload 6, 2) := by decide +kernel
theorem dX4_putNumber_22 : decode cX4_putNumber 22 = .ok (.bipush 20, 2) := by decide +kernel
theorem dX4_putNumber_24 : decode cX4_putNumber 24 = .ok (.if_icmp .ge 48, 3) := by decide +kernel
theorem dX4_putNumber_27 : decode cX4_putNumber 27 = .ok (.iload 6, 2) := by decide +kernel
theorem dX4_putNumber_29 : decode cX4_putNumber 29 = .ok (.ifCond .eq 9, 3) := by decide +kernel
theorem dX4_putNumber_32 : decode cX4_putNumber 32 = .ok (.lload_n 3, 1) := by decide +kernel
theorem dX4_putNumber_33 : decode cX4_putNumber 33 = .ok (.lconst 0, 1) := by decide +kernel
theorem dX4_putNumber_34 : decode cX4_putNumber 34 = .ok (.lcmp, 1) := by decide +kernel
theorem dX4_putNumber_35 : decode cX4_putNumber 35 = .ok (.ifCond .eq 37, 3) := by decide +kernel
theorem dX4_putNumber_38 : decode cX4_putNumber 38 = .ok (.aload_n 0, 1) := by decide +kernel
theorem dX4_putNumber_39 : decode cX4_putNumber 39 = .ok (.getfield 19, 3) := by decide +kernel
theorem dX4_putNumber_42 : decode cX4_putNumber 42 = .ok (.iload 6, 2) := by decide +kernel
theorem dX4_putNumber_44 : decode cX4_putNumber 44 = .ok (.lload_n 3, 1) := by decide +kernel
theorem dX4_putNumber_45 : decode cX4_putNumber 45 = .ok (.ldc2_w 79, 3) := by decide +kernel
theorem dX4_putNumber_48 : decode cX4_putNumber 48 = .ok (.lrem, 1) := by decide +kernel
theorem dX4_putNumber_49 : decode cX4_putNumber 49 = .ok (.invokestatic 81, 3) := by decide +kernel
theorem dX4_putNumber_52 : decode cX4_putNumber 52 = .ok (.l2i, 1) := by decide +kernel
theorem dX4_putNumber_53 : decode cX4_putNumber 53 = .ok (.iastore, 1) := by decide +kernel
theorem dX4_putNumber_54 : decode cX4_putNumber 54 = .ok (.lload_n 3, 1) := by decide +kernel
theorem dX4_putNumber_55 : decode cX4_putNumber 55 = .ok (.ldc2_w 79, 3) := by decide +kernel
theorem dX4_putNumber_58 : decode cX4_putNumber 58 = .ok (.ldiv, 1) := by decide +kernel
theorem dX4_putNumber_59 : decode cX4_putNumber 59 = .ok (.lstore_n 3, 1) := by decide +kernel
theorem dX4_putNumber_60 : decode cX4_putNumber 60 = .ok (.iload 6, 2) := by decide +kernel
theorem dX4_putNumber_62 : decode cX4_putNumber 62 = .ok (.iconst 1, 1) := by decide +kernel
theorem dX4_putNumber_63 : decode cX4_putNumber 63 = .ok (.iadd, 1) := by decide +kernel
theorem dX4_putNumber_64 : decode cX4_putNumber 64 = .ok (.istore 5, 2) := by decide +kernel
theorem dX4_putNumber_66 : decode cX4_putNumber 66 = .ok (.iinc 6 1, 3) := by decide +kernel
theorem dX4_putNumber_69 : decode cX4_putNumber 69 = .ok (.goto (-49), 3) := by decide +kernel
theorem dX4_putNumber_72 : decode cX4_putNumber 72 = .ok (.iload 5, 2) := by decide +kernel
theorem dX4_putNumber_74 : decode cX4_putNumber 74 = .ok (.iconst 1, 1) := by decide +kernel
theorem dX4_putNumber_75 : decode cX4_putNumber 75 = .ok (.isub, 1) := by decide +kernel
theorem dX4_putNumber_76 : decode cX4_putNumber 76 = .ok (.istore 6, 2) := by decide +kernel
theorem dX4_putNumber_78 : decode cX4_putNumber 78 = .ok (.iload 6, 2) := by decide +kernel
theorem dX4_putNumber_80 : decode cX4_putNumber 80 = .ok (.ifCond .lt 23, 3) := by decide +kernel
theorem dX4_putNumber_83 : decode cX4_putNumber 83 = .ok (.aload_n 0, 1) := by decide +kernel
theorem dX4_putNumber_84 : decode cX4_putNumber 84 = .ok (.bipush 48, 2) := by decide +kernel
theorem dX4_putNumber_86 : decode cX4_putNumber 86 = .ok (.aload_n 0, 1) := by decide +kernel
theorem dX4_putNumber_87 : decode cX4_putNumber 87 = .ok (.getfield 19, 3) := by decide +kernel
theorem dX4_putNumber_90 : decode cX4_putNumber 90 = .ok (.iload 6, 2) := by decide +kernel
theorem dX4_putNumber_92 : decode cX4_putNumber 92 = .ok (.iaload, 1) := by decide +kernel
theorem dX4_putNumber_93 : decode cX4_putNumber 93 = .ok (.iadd, 1) := by decide +kernel
theorem dX4_putNumber_94 : decode cX4_putNumber 94 = .ok (.invokevirtual 33, 3) := by decide +kernel
theorem dX4_putNumber_97 : decode cX4_putNumber 97 = .ok (.iinc 6 (-1), 3) := by decide +kernel
theorem dX4_putNumber_100 : decode cX4_putNumber 100 = .ok (.goto (-22), 3) := by decide +kernel
theorem dX4_putNumber_103 : decode cX4_putNumber 103 = .ok (.return_, 1) := by decide +kernel
theorem dX5_init_0 : decode cX5_init 0 = .ok (.aload_n 0, 1) := by decide +kernel
theorem dX5_init_1 : decode cX5_init 1 = .ok (.invokespecial 3, 3) := by decide +kernel
theorem dX5_init_4 : decode cX5_init 4 = .ok (.aload_n 0, 1) := by decide +kernel
theorem dX5_init_5 : decode cX5_init 5 = .ok (.bipush 120, 2) := by decide +kernel
theorem dX5_init_7 : decode cX5_init 7 = .ok (.newarray .int, 2) := by decide +kernel
theorem dX5_init_9 : decode cX5_init 9 = .ok (.putfield 9, 3) := by decide +kernel
theorem dX5_init_12 : decode cX5_init 12 = .ok (.aload_n 0, 1) := by decide +kernel
theorem dX5_init_13 : decode cX5_init 13 = .ok (.aload_n 1, 1) := by decide +kernel
theorem dX5_init_14 : decode cX5_init 14 = .ok (.putfield 15, 3) := by decide +kernel
theorem dX5_init_17 : decode cX5_init 17 = .ok (.return_, 1) := by decide +kernel
theorem dX5_tapeSize_0 : decode cX5_tapeSize 0 = .ok (.aload_n 0, 1) := by decide +kernel
theorem dX5_tapeSize_1 : decode cX5_tapeSize 1 = .ok (.getfield 19, 3) := by decide +kernel
theorem dX5_tapeSize_4 : decode cX5_tapeSize 4 = .ok (.ireturn, 1) := by decide +kernel
theorem dX5_faultPlace_0 : decode cX5_faultPlace 0 = .ok (.aload_n 0, 1) := by decide +kernel
theorem dX5_faultPlace_1 : decode cX5_faultPlace 1 = .ok (.getfield 23, 3) := by decide +kernel
theorem dX5_faultPlace_4 : decode cX5_faultPlace 4 = .ok (.ireturn, 1) := by decide +kernel
theorem dX5_append_0 : decode cX5_append 0 = .ok (.aload_n 0, 1) := by decide +kernel
theorem dX5_append_1 : decode cX5_append 1 = .ok (.getfield 19, 3) := by decide +kernel
theorem dX5_append_4 : decode cX5_append 4 = .ok (.bipush 120, 2) := by decide +kernel
theorem dX5_append_6 : decode cX5_append 6 = .ok (.if_icmp .ge 23, 3) := by decide +kernel
theorem dX5_append_9 : decode cX5_append 9 = .ok (.aload_n 0, 1) := by decide +kernel
theorem dX5_append_10 : decode cX5_append 10 = .ok (.getfield 9, 3) := by decide +kernel
theorem dX5_append_13 : decode cX5_append 13 = .ok (.aload_n 0, 1) := by decide +kernel
theorem dX5_append_14 : decode cX5_append 14 = .ok (.getfield 19, 3) := by decide +kernel
theorem dX5_append_17 : decode cX5_append 17 = .ok (.iload_n 1, 1) := by decide +kernel
theorem dX5_append_18 : decode cX5_append 18 = .ok (.iastore, 1) := by decide +kernel
theorem dX5_append_19 : decode cX5_append 19 = .ok (.aload_n 0, 1) := by decide +kernel
theorem dX5_append_20 : decode cX5_append 20 = .ok (.dup, 1) := by decide +kernel
theorem dX5_append_21 : decode cX5_append 21 = .ok (.getfield 19, 3) := by decide +kernel
theorem dX5_append_24 : decode cX5_append 24 = .ok (.iconst 1, 1) := by decide +kernel
theorem dX5_append_25 : decode cX5_append 25 = .ok (.iadd, 1) := by decide +kernel
theorem dX5_append_26 : decode cX5_append 26 = .ok (.putfield 19, 3) := by decide +kernel
theorem dX5_append_29 : decode cX5_append 29 = .ok (.return_, 1) := by decide +kernel
theorem dX5_readTape_0 : decode cX5_readTape 0 = .ok (.aload_n 0, 1) := by decide +kernel
theorem dX5_readTape_1 : decode cX5_readTape 1 = .ok (.getfield 15, 3) := by decide +kernel
theorem dX5_readTape_4 : decode cX5_readTape 4 = .ok (.invokevirtual 26, 3) := by decide +kernel
theorem dX5_readTape_7 : decode cX5_readTape 7 = .ok (.aload_n 0, 1) := by decide +kernel
theorem dX5_readTape_8 : decode cX5_readTape 8 = .ok (.iconst (-1), 1) := by decide +kernel
theorem dX5_readTape_9 : decode cX5_readTape 9 = .ok (.putfield 23, 3) := by decide +kernel
theorem dX5_readTape_12 : decode cX5_readTape 12 = .ok (.aload_n 0, 1) := by decide +kernel
theorem dX5_readTape_13 : decode cX5_readTape 13 = .ok (.iconst 0, 1) := by decide +kernel
theorem dX5_readTape_14 : decode cX5_readTape 14 = .ok (.putfield 31, 3) := by decide +kernel
theorem dX5_readTape_17 : decode cX5_readTape 17 = .ok (.aload_n 0, 1) := by decide +kernel
theorem dX5_readTape_18 : decode cX5_readTape 18 = .ok (.invokevirtual 34, 3) := by decide +kernel
theorem dX5_readTape_21 : decode cX5_readTape 21 = .ok (.aload_n 0, 1) := by decide +kernel
theorem dX5_readTape_22 : decode cX5_readTape 22 = .ok (.iconst 0, 1) := by decide +kernel
theorem dX5_readTape_23 : decode cX5_readTape 23 = .ok (.invokevirtual 37, 3) := by decide +kernel
theorem dX5_readTape_26 : decode cX5_readTape 26 = .ok (.istore_n 1, 1) := by decide +kernel
theorem dX5_readTape_27 : decode cX5_readTape 27 = .ok (.iload_n 1, 1) := by decide +kernel
theorem dX5_readTape_28 : decode cX5_readTape 28 = .ok (.ifCond .lt 15, 3) := by decide +kernel
theorem dX5_readTape_31 : decode cX5_readTape 31 = .ok (.aload_n 0, 1) := by decide +kernel
theorem dX5_readTape_32 : decode cX5_readTape 32 = .ok (.getfield 41, 3) := by decide +kernel
theorem dX5_readTape_35 : decode cX5_readTape 35 = .ok (.ifCond .eq 8, 3) := by decide +kernel
theorem dX5_readTape_38 : decode cX5_readTape 38 = .ok (.aload_n 0, 1) := by decide +kernel
theorem dX5_readTape_39 : decode cX5_readTape 39 = .ok (.invokevirtual 44, 3) := by decide +kernel
theorem dX5_readTape_42 : decode cX5_readTape 42 = .ok (.istore_n 1, 1) := by decide +kernel
theorem dX5_readTape_43 : decode cX5_readTape 43 = .ok (.aload_n 0, 1) := by decide +kernel
theorem dX5_readTape_44 : decode cX5_readTape 44 = .ok (.iconst 0, 1) := by decide +kernel
theorem dX5_readTape_45 : decode cX5_readTape 45 = .ok (.putfield 19, 3) := by decide +kernel
theorem dX5_readTape_48 : decode cX5_readTape 48 = .ok (.iload_n 1, 1) := by decide +kernel
theorem dX5_readTape_49 : decode cX5_readTape 49 = .ok (.ireturn, 1) := by decide +kernel
theorem dX5_byteAt_0 : decode cX5_byteAt 0 = .ok (.iload_n 1, 1) := by decide +kernel
theorem dX5_byteAt_1 : decode cX5_byteAt 1 = .ok (.ifCond .lt 20, 3) := by decide +kernel
theorem dX5_byteAt_4 : decode cX5_byteAt 4 = .ok (.iload_n 1, 1) := by decide +kernel
theorem dX5_byteAt_5 : decode cX5_byteAt 5 = .ok (.aload_n 0, 1) := by decide +kernel
theorem dX5_byteAt_6 : decode cX5_byteAt 6 = .ok (.getfield 19, 3) := by decide +kernel
theorem dX5_byteAt_9 : decode cX5_byteAt 9 = .ok (.if_icmp .ge 12, 3) := by decide +kernel
theorem dX5_byteAt_12 : decode cX5_byteAt 12 = .ok (.aload_n 0, 1) := by decide +kernel
theorem dX5_byteAt_13 : decode cX5_byteAt 13 = .ok (.getfield 9, 3) := by decide +kernel
theorem dX5_byteAt_16 : decode cX5_byteAt 16 = .ok (.iload_n 1, 1) := by decide +kernel
theorem dX5_byteAt_17 : decode cX5_byteAt 17 = .ok (.iaload, 1) := by decide +kernel
theorem dX5_byteAt_18 : decode cX5_byteAt 18 = .ok (.goto 4, 3) := by decide +kernel
theorem dX5_byteAt_21 : decode cX5_byteAt 21 = .ok (.iconst 0, 1) := by decide +kernel
theorem dX5_byteAt_22 : decode cX5_byteAt 22 = .ok (.ireturn, 1) := by decide +kernel
theorem dX5_isBlank_0 : decode cX5_isBlank 0 = .ok (.iload_n 0, 1) := by decide +kernel
theorem dX5_isBlank_1 : decode cX5_isBlank 1 = .ok (.bipush 32, 2) := by decide +kernel
theorem dX5_isBlank_3 : decode cX5_isBlank 3 = .ok (.if_icmp .eq 9, 3) := by decide +kernel
theorem dX5_isBlank_6 : decode cX5_isBlank 6 = .ok (.iload_n 0, 1) := by decide +kernel
theorem dX5_isBlank_7 : decode cX5_isBlank 7 = .ok (.bipush 10, 2) := by decide +kernel
theorem dX5_isBlank_9 : decode cX5_isBlank 9 = .ok (.if_icmp .ne 7, 3) := by decide +kernel
theorem dX5_isBlank_12 : decode cX5_isBlank 12 = .ok (.iconst 1, 1) := by decide +kernel
theorem dX5_isBlank_13 : decode cX5_isBlank 13 = .ok (.goto 4, 3) := by decide +kernel
theorem dX5_isBlank_16 : decode cX5_isBlank 16 = .ok (.iconst 0, 1) := by decide +kernel
theorem dX5_isBlank_17 : decode cX5_isBlank 17 = .ok (.ireturn, 1) := by decide +kernel
theorem dX5_isLetter_0 : decode cX5_isLetter 0 = .ok (.iload_n 0, 1) := by decide +kernel
theorem dX5_isLetter_1 : decode cX5_isLetter 1 = .ok (.bipush 97, 2) := by decide +kernel
theorem dX5_isLetter_3 : decode cX5_isLetter 3 = .ok (.if_icmp .lt 13, 3) := by decide +kernel
theorem dX5_isLetter_6 : decode cX5_isLetter 6 = .ok (.iload_n 0, 1) := by decide +kernel
theorem dX5_isLetter_7 : decode cX5_isLetter 7 = .ok (.bipush 122, 2) := by decide +kernel
theorem dX5_isLetter_9 : decode cX5_isLetter 9 = .ok (.if_icmp .gt 7, 3) := by decide +kernel
theorem dX5_isLetter_12 : decode cX5_isLetter 12 = .ok (.iconst 1, 1) := by decide +kernel
theorem dX5_isLetter_13 : decode cX5_isLetter 13 = .ok (.goto 4, 3) := by decide +kernel
theorem dX5_isLetter_16 : decode cX5_isLetter 16 = .ok (.iconst 0, 1) := by decide +kernel
theorem dX5_isLetter_17 : decode cX5_isLetter 17 = .ok (.ireturn, 1) := by decide +kernel
theorem dX5_isDigit_0 : decode cX5_isDigit 0 = .ok (.iload_n 0, 1) := by decide +kernel
theorem dX5_isDigit_1 : decode cX5_isDigit 1 = .ok (.bipush 48, 2) := by decide +kernel
theorem dX5_isDigit_3 : decode cX5_isDigit 3 = .ok (.if_icmp .lt 13, 3) := by decide +kernel
theorem dX5_isDigit_6 : decode cX5_isDigit 6 = .ok (.iload_n 0, 1) := by decide +kernel
theorem dX5_isDigit_7 : decode cX5_isDigit 7 = .ok (.bipush 57, 2) := by decide +kernel
theorem dX5_isDigit_9 : decode cX5_isDigit 9 = .ok (.if_icmp .gt 7, 3) := by decide +kernel
theorem dX5_isDigit_12 : decode cX5_isDigit 12 = .ok (.iconst 1, 1) := by decide +kernel
theorem dX5_isDigit_13 : decode cX5_isDigit 13 = .ok (.goto 4, 3) := by decide +kernel
theorem dX5_isDigit_16 : decode cX5_isDigit 16 = .ok (.iconst 0, 1) := by decide +kernel
theorem dX5_isDigit_17 : decode cX5_isDigit 17 = .ok (.ireturn, 1) := by decide +kernel
theorem dX5_isSign_0 : decode cX5_isSign 0 = .ok (.iload_n 0, 1) := by decide +kernel
theorem dX5_isSign_1 : decode cX5_isSign 1 = .ok (.lookupswitch 93 #[(40, 91), (41, 91), (42, 91), (43, 91), (45, 91), (58, 91), (63, 91), (91, 91), (93, 91), (94, 91)], 91) := by decide +kernel
theorem dX5_isSign_92 : decode cX5_isSign 92 = .ok (.iconst 1, 1) := by decide +kernel
theorem dX5_isSign_93 : decode cX5_isSign 93 = .ok (.ireturn, 1) := by decide +kernel
theorem dX5_isSign_94 : decode cX5_isSign 94 = .ok (.iconst 0, 1) := by decide +kernel
theorem dX5_isSign_95 : decode cX5_isSign 95 = .ok (.ireturn, 1) := by decide +kernel
theorem dX5_advance_0 : decode cX5_advance 0 = .ok (.aload_n 0, 1) := by decide +kernel
theorem dX5_advance_1 : decode cX5_advance 1 = .ok (.aload_n 0, 1) := by decide +kernel
theorem dX5_advance_2 : decode cX5_advance 2 = .ok (.getfield 31, 3) := by decide +kernel
theorem dX5_advance_5 : decode cX5_advance 5 = .ok (.putfield 48, 3) := by decide +kernel
theorem dX5_advance_8 : decode cX5_advance 8 = .ok (.aload_n 0, 1) := by decide +kernel
theorem dX5_advance_9 : decode cX5_advance 9 = .ok (.getfield 48, 3) := by decide +kernel
theorem dX5_advance_12 : decode cX5_advance 12 = .ok (.aload_n 0, 1) := by decide +kernel
theorem dX5_advance_13 : decode cX5_advance 13 = .ok (.getfield 19, 3) := by decide +kernel
theorem dX5_advance_16 : decode cX5_advance 16 = .ok (.if_icmp .ge 30, 3) := by decide +kernel
theorem dX5_advance_19 : decode cX5_advance 19 = .ok (.aload_n 0, 1) := by decide +kernel
theorem dX5_advance_20 : decode cX5_advance 20 = .ok (.aload_n 0, 1) := by decide +kernel
theorem dX5_advance_21 : decode cX5_advance 21 = .ok (.getfield 48, 3) := by decide +kernel
theorem dX5_advance_24 : decode cX5_advance 24 = .ok (.invokevirtual 51, 3) := by decide +kernel
theorem dX5_advance_27 : decode cX5_advance 27 = .ok (.invokestatic 54, 3) := by decide +kernel
theorem dX5_advance_30 : decode cX5_advance 30 = .ok (.ifCond .eq 16, 3) := by decide +kernel
theorem dX5_advance_33 : decode cX5_advance 33 = .ok (.aload_n 0, 1) := by decide +kernel
theorem dX5_advance_34 : decode cX5_advance 34 = .ok (.dup, 1) := by decide +kernel
theorem dX5_advance_35 : decode cX5_advance 35 = .ok (.getfield 48, 3) := by decide +kernel
theorem dX5_advance_38 : decode cX5_advance 38 = .ok (.iconst 1, 1) := by decide +kernel
theorem dX5_advance_39 : decode cX5_advance 39 = .ok (.iadd, 1) := by decide +kernel
theorem dX5_advance_40 : decode cX5_advance 40 = .ok (.putfield 48, 3) := by decide +kernel
theorem dX5_advance_43 : decode cX5_advance 43 = .ok (.goto (-35), 3) := by decide +kernel
theorem dX5_advance_46 : decode cX5_advance 46 = .ok (.aload_n 0, 1) := by decide +kernel
theorem dX5_advance_47 : decode cX5_advance 47 = .ok (.aload_n 0, 1) := by decide +kernel
theorem dX5_advance_48 : decode cX5_advance 48 = .ok (.getfield 48, 3) := by decide +kernel
theorem dX5_advance_51 : decode cX5_advance 51 = .ok (.putfield 31, 3) := by decide +kernel
theorem dX5_advance_54 : decode cX5_advance 54 = .ok (.aload_n 0, 1) := by decide +kernel
theorem dX5_advance_55 : decode cX5_advance 55 = .ok (.aload_n 0, 1) := by decide +kernel
theorem dX5_advance_56 : decode cX5_advance 56 = .ok (.getfield 48, 3) := by decide +kernel
theorem dX5_advance_59 : decode cX5_advance 59 = .ok (.invokevirtual 51, 3) := by decide +kernel
theorem dX5_advance_62 : decode cX5_advance 62 = .ok (.istore_n 1, 1) := by decide +kernel
theorem dX5_advance_63 : decode cX5_advance 63 = .ok (.aload_n 0, 1) := by decide +kernel
theorem dX5_advance_64 : decode cX5_advance 64 = .ok (.getfield 48, 3) := by decide +kernel
theorem dX5_advance_67 : decode cX5_advance 67 = .ok (.aload_n 0, 1) := by decide +kernel
theorem dX5_advance_68 : decode cX5_advance 68 = .ok (.getfield 19, 3) := by decide +kernel
theorem dX5_advance_71 : decode cX5_advance 71 = .ok (.if_icmp .lt 11, 3) := by decide +kernel
theorem dX5_advance_74 : decode cX5_advance 74 = .ok (.aload_n 0, 1) := by decide +kernel
theorem dX5_advance_75 : decode cX5_advance 75 = .ok (.iconst 0, 1) := by decide +kernel
theorem dX5_advance_76 : decode cX5_advance 76 = .ok (.putfield 41, 3) := by decide +kernel
theorem dX5_advance_79 : decode cX5_advance 79 = .ok (.goto 58, 3) := by decide +kernel
theorem dX5_advance_82 : decode cX5_advance 82 = .ok (.iload_n 1, 1) := by decide +kernel
theorem dX5_advance_83 : decode cX5_advance 83 = .ok (.invokestatic 58, 3) := by decide +kernel
theorem dX5_advance_86 : decode cX5_advance 86 = .ok (.ifCond .eq 11, 3) := by decide +kernel
theorem dX5_advance_89 : decode cX5_advance 89 = .ok (.aload_n 0, 1) := by decide +kernel
theorem dX5_advance_90 : decode cX5_advance 90 = .ok (.iload_n 1, 1) := by decide +kernel
theorem dX5_advance_91 : decode cX5_advance 91 = .ok (.invokevirtual 61, 3) := by decide +kernel
theorem dX5_advance_94 : decode cX5_advance 94 = .ok (.goto 43, 3) := by decide +kernel
theorem dX5_advance_97 : decode cX5_advance 97 = .ok (.iload_n 1, 1) := by decide +kernel
theorem dX5_advance_98 : decode cX5_advance 98 = .ok (.invokestatic 65, 3) := by decide +kernel
theorem dX5_advance_101 : decode cX5_advance 101 = .ok (.ifCond .eq 10, 3) := by decide +kernel
theorem dX5_advance_104 : decode cX5_advance 104 = .ok (.aload_n 0, 1) := by decide +kernel
theorem dX5_advance_105 : decode cX5_advance 105 = .ok (.invokevirtual 68, 3) := by decide +kernel
theorem dX5_advance_108 : decode cX5_advance 108 = .ok (.goto 29, 3) := by decide +kernel
theorem dX5_advance_111 : decode cX5_advance 111 = .ok (.aload_n 0, 1) := by decide +kernel
theorem dX5_advance_112 : decode cX5_advance 112 = .ok (.dup, 1) := by decide +kernel
theorem dX5_advance_113 : decode cX5_advance 113 = .ok (.getfield 31, 3) := by decide +kernel
theorem dX5_advance_116 : decode cX5_advance 116 = .ok (.iconst 1, 1) := by decide +kernel
theorem dX5_advance_117 : decode cX5_advance 117 = .ok (.iadd, 1) := by decide +kernel
theorem dX5_advance_118 : decode cX5_advance 118 = .ok (.putfield 31, 3) := by decide +kernel
theorem dX5_advance_121 : decode cX5_advance 121 = .ok (.aload_n 0, 1) := by decide +kernel
theorem dX5_advance_122 : decode cX5_advance 122 = .ok (.iload_n 1, 1) := by decide +kernel
theorem dX5_advance_123 : decode cX5_advance 123 = .ok (.invokestatic 71, 3) := by decide +kernel
theorem dX5_advance_126 : decode cX5_advance 126 = .ok (.ifCond .eq 7, 3) := by decide +kernel
theorem dX5_advance_129 : decode cX5_advance 129 = .ok (.iload_n 1, 1) := by decide +kernel
theorem dX5_advance_130 : decode cX5_advance 130 = .ok (.goto 4, 3) := by decide +kernel
theorem dX5_advance_133 : decode cX5_advance 133 = .ok (.iconst 1, 1) := by decide +kernel
theorem dX5_advance_134 : decode cX5_advance 134 = .ok (.putfield 41, 3) := by decide +kernel
theorem dX5_advance_137 : decode cX5_advance 137 = .ok (.return_, 1) := by decide +kernel
theorem dX5_takeWord_0 : decode cX5_takeWord 0 = .ok (.aload_n 0, 1) := by decide +kernel
theorem dX5_takeWord_1 : decode cX5_takeWord 1 = .ok (.getfield 31, 3) := by decide +kernel
theorem dX5_takeWord_4 : decode cX5_takeWord 4 = .ok (.aload_n 0, 1) := by decide +kernel
theorem dX5_takeWord_5 : decode cX5_takeWord 5 = .ok (.getfield 19, 3) := by decide +kernel
theorem dX5_takeWord_8 : decode cX5_takeWord 8 = .ok (.if_icmp .ge 30, 3) := by decide +kernel
theorem dX5_takeWord_11 : decode cX5_takeWord 11 = .ok (.aload_n 0, 1) := by decide +kernel
theorem dX5_takeWord_12 : decode cX5_takeWord 12 = .ok (.aload_n 0, 1) := by decide +kernel
theorem dX5_takeWord_13 : decode cX5_takeWord 13 = .ok (.getfield 31, 3) := by decide +kernel
theorem dX5_takeWord_16 : decode cX5_takeWord 16 = .ok (.invokevirtual 51, 3) := by decide +kernel
theorem dX5_takeWord_19 : decode cX5_takeWord 19 = .ok (.invokestatic 58, 3) := by decide +kernel
theorem dX5_takeWord_22 : decode cX5_takeWord 22 = .ok (.ifCond .eq 16, 3) := by decide +kernel
theorem dX5_takeWord_25 : decode cX5_takeWord 25 = .ok (.aload_n 0, 1) := by decide +kernel
theorem dX5_takeWord_26 : decode cX5_takeWord 26 = .ok (.dup, 1) := by decide +kernel
theorem dX5_takeWord_27 : decode cX5_takeWord 27 = .ok (.getfield 31, 3) := by decide +kernel
theorem dX5_takeWord_30 : decode cX5_takeWord 30 = .ok (.iconst 1, 1) := by decide +kernel
theorem dX5_takeWord_31 : decode cX5_takeWord 31 = .ok (.iadd, 1) := by decide +kernel
theorem dX5_takeWord_32 : decode cX5_takeWord 32 = .ok (.putfield 31, 3) := by decide +kernel
theorem dX5_takeWord_35 : decode cX5_takeWord 35 = .ok (.goto (-35), 3) := by decide +kernel
theorem dX5_takeWord_38 : decode cX5_takeWord 38 = .ok (.aload_n 0, 1) := by decide +kernel
theorem dX5_takeWord_39 : decode cX5_takeWord 39 = .ok (.iload_n 1, 1) := by decide +kernel
theorem dX5_takeWord_40 : decode cX5_takeWord 40 = .ok (.bipush 97, 2) := by decide +kernel
theorem dX5_takeWord_42 : decode cX5_takeWord 42 = .ok (.isub, 1) := by decide +kernel
theorem dX5_takeWord_43 : decode cX5_takeWord 43 = .ok (.putfield 74, 3) := by decide +kernel
theorem dX5_takeWord_46 : decode cX5_takeWord 46 = .ok (.aload_n 0, 1) := by decide +kernel
theorem dX5_takeWord_47 : decode cX5_takeWord 47 = .ok (.aload_n 0, 1) := by decide +kernel
theorem dX5_takeWord_48 : decode cX5_takeWord 48 = .ok (.getfield 31, 3) := by decide +kernel
theorem dX5_takeWord_51 : decode cX5_takeWord 51 = .ok (.aload_n 0, 1) := by decide +kernel
theorem dX5_takeWord_52 : decode cX5_takeWord 52 = .ok (.getfield 48, 3) := by decide +kernel
theorem dX5_takeWord_55 : decode cX5_takeWord 55 = .ok (.isub, 1) := by decide +kernel
theorem dX5_takeWord_56 : decode cX5_takeWord 56 = .ok (.iconst 1, 1) := by decide +kernel
theorem dX5_takeWord_57 : decode cX5_takeWord 57 = .ok (.if_icmp .ne 17, 3) := by decide +kernel
theorem dX5_takeWord_60 : decode cX5_takeWord 60 = .ok (.aload_n 0, 1) := by decide +kernel
theorem dX5_takeWord_61 : decode cX5_takeWord 61 = .ok (.getfield 74, 3) := by decide +kernel
theorem dX5_takeWord_64 : decode cX5_takeWord 64 = .ok (.invokestatic 77, 3) := by decide +kernel
theorem dX5_takeWord_67 : decode cX5_takeWord 67 = .ok (.ifCond .eq 7, 3) := by decide +kernel
theorem dX5_takeWord_70 : decode cX5_takeWord 70 = .ok (.iconst 2, 1) := by decide +kernel
theorem dX5_takeWord_71 : decode cX5_takeWord 71 = .ok (.goto 4, 3) := by decide +kernel
theorem dX5_takeWord_74 : decode cX5_takeWord 74 = .ok (.iconst 1, 1) := by decide +kernel
theorem dX5_takeWord_75 : decode cX5_takeWord 75 = .ok (.putfield 41, 3) := by decide +kernel
theorem dX5_takeWord_78 : decode cX5_takeWord 78 = .ok (.return_, 1) := by decide +kernel
theorem dX5_takeNumber_0 : decode cX5_takeNumber 0 = .ok (.aload_n 0, 1) := by decide +kernel
theorem dX5_takeNumber_1 : decode cX5_takeNumber 1 = .ok (.iconst 0, 1) := by decide +kernel
theorem dX5_takeNumber_2 : decode cX5_takeNumber 2 = .ok (.putfield 74, 3) := by decide +kernel
theorem dX5_takeNumber_5 : decode cX5_takeNumber 5 = .ok (.aload_n 0, 1) := by decide +kernel
theorem dX5_takeNumber_6 : decode cX5_takeNumber 6 = .ok (.getfield 31, 3) := by decide +kernel
theorem dX5_takeNumber_9 : decode cX5_takeNumber 9 = .ok (.aload_n 0, 1) := by decide +kernel
theorem dX5_takeNumber_10 : decode cX5_takeNumber 10 = .ok (.getfield 19, 3) := by decide +kernel
theorem dX5_takeNumber_13 : decode cX5_takeNumber 13 = .ok (.if_icmp .ge 53, 3) := by decide +kernel
theorem dX5_takeNumber_16 : decode cX5_takeNumber 16 = .ok (.aload_n 0, 1) := by decide +kernel
theorem dX5_takeNumber_17 : decode cX5_takeNumber 17 = .ok (.aload_n 0, 1) := by decide +kernel
theorem dX5_takeNumber_18 : decode cX5_takeNumber 18 = .ok (.getfield 31, 3) := by decide +kernel
theorem dX5_takeNumber_21 : decode cX5_takeNumber 21 = .ok (.invokevirtual 51, 3) := by decide +kernel
theorem dX5_takeNumber_24 : decode cX5_takeNumber 24 = .ok (.invokestatic 65, 3) := by decide +kernel
theorem dX5_takeNumber_27 : decode cX5_takeNumber 27 = .ok (.ifCond .eq 39, 3) := by decide +kernel
theorem dX5_takeNumber_30 : decode cX5_takeNumber 30 = .ok (.aload_n 0, 1) := by decide +kernel
theorem dX5_takeNumber_31 : decode cX5_takeNumber 31 = .ok (.aload_n 0, 1) := by decide +kernel
theorem dX5_takeNumber_32 : decode cX5_takeNumber 32 = .ok (.getfield 74, 3) := by decide +kernel
theorem dX5_takeNumber_35 : decode cX5_takeNumber 35 = .ok (.bipush 10, 2) := by decide +kernel
theorem dX5_takeNumber_37 : decode cX5_takeNumber 37 = .ok (.imul, 1) := by decide +kernel
theorem dX5_takeNumber_38 : decode cX5_takeNumber 38 = .ok (.aload_n 0, 1) := by decide +kernel
theorem dX5_takeNumber_39 : decode cX5_takeNumber 39 = .ok (.aload_n 0, 1) := by decide +kernel
theorem dX5_takeNumber_40 : decode cX5_takeNumber 40 = .ok (.getfield 31, 3) := by decide +kernel
theorem dX5_takeNumber_43 : decode cX5_takeNumber 43 = .ok (.invokevirtual 51, 3) := by decide +kernel
theorem dX5_takeNumber_46 : decode cX5_takeNumber 46 = .ok (.iadd, 1) := by decide +kernel
theorem dX5_takeNumber_47 : decode cX5_takeNumber 47 = .ok (.bipush 48, 2) := by decide +kernel
theorem dX5_takeNumber_49 : decode cX5_takeNumber 49 = .ok (.isub, 1) := by decide +kernel
theorem dX5_takeNumber_50 : decode cX5_takeNumber 50 = .ok (.putfield 74, 3) := by decide +kernel
theorem dX5_takeNumber_53 : decode cX5_takeNumber 53 = .ok (.aload_n 0, 1) := by decide +kernel
theorem dX5_takeNumber_54 : decode cX5_takeNumber 54 = .ok (.dup, 1) := by decide +kernel
theorem dX5_takeNumber_55 : decode cX5_takeNumber 55 = .ok (.getfield 31, 3) := by decide +kernel
theorem dX5_takeNumber_58 : decode cX5_takeNumber 58 = .ok (.iconst 1, 1) := by decide +kernel
theorem dX5_takeNumber_59 : decode cX5_takeNumber 59 = .ok (.iadd, 1) := by decide +kernel
theorem dX5_takeNumber_60 : decode cX5_takeNumber 60 = .ok (.putfield 31, 3) := by decide +kernel
theorem dX5_takeNumber_63 : decode cX5_takeNumber 63 = .ok (.goto (-58), 3) := by decide +kernel
theorem dX5_takeNumber_66 : decode cX5_takeNumber 66 = .ok (.aload_n 0, 1) := by decide +kernel
theorem dX5_takeNumber_67 : decode cX5_takeNumber 67 = .ok (.aload_n 0, 1) := by decide +kernel
theorem dX5_takeNumber_68 : decode cX5_takeNumber 68 = .ok (.getfield 31, 3) := by decide +kernel
theorem dX5_takeNumber_71 : decode cX5_takeNumber 71 = .ok (.aload_n 0, 1) := by decide +kernel
theorem dX5_takeNumber_72 : decode cX5_takeNumber 72 = .ok (.getfield 48, 3) := by decide +kernel
theorem dX5_takeNumber_75 : decode cX5_takeNumber 75 = .ok (.isub, 1) := by decide +kernel
theorem dX5_takeNumber_76 : decode cX5_takeNumber 76 = .ok (.iconst 4, 1) := by decide +kernel
theorem dX5_takeNumber_77 : decode cX5_takeNumber 77 = .ok (.if_icmp .gt 7, 3) := by decide +kernel
theorem dX5_takeNumber_80 : decode cX5_takeNumber 80 = .ok (.iconst 3, 1) := by decide +kernel
theorem dX5_takeNumber_81 : decode cX5_takeNumber 81 = .ok (.goto 4, 3) := by decide +kernel
theorem dX5_takeNumber_84 : decode cX5_takeNumber 84 = .ok (.iconst 1, 1) := by decide +kernel
theorem dX5_takeNumber_85 : decode cX5_takeNumber 85 = .ok (.putfield 41, 3) := by decide +kernel
theorem dX5_takeNumber_88 : decode cX5_takeNumber 88 = .ok (.return_, 1) := by decide +kernel
theorem dX5_fail_0 : decode cX5_fail 0 = .ok (.aload_n 0, 1) := by decide +kernel
theorem dX5_fail_1 : decode cX5_fail 1 = .ok (.aload_n 0, 1) := by decide +kernel
theorem dX5_fail_2 : decode cX5_fail 2 = .ok (.getfield 48, 3) := by decide +kernel
theorem dX5_fail_5 : decode cX5_fail 5 = .ok (.putfield 23, 3) := by decide +kernel
theorem dX5_fail_8 : decode cX5_fail 8 = .ok (.iconst (-1), 1) := by decide +kernel
theorem dX5_fail_9 : decode cX5_fail 9 = .ok (.ireturn, 1) := by decide +kernel
theorem dX5_choice_0 : decode cX5_choice 0 = .ok (.aload_n 0, 1) := by decide +kernel
theorem dX5_choice_1 : decode cX5_choice 1 = .ok (.iload_n 1, 1) := by decide +kernel
theorem dX5_choice_2 : decode cX5_choice 2 = .ok (.invokevirtual 80, 3) := by decide +kernel
theorem dX5_choice_5 : decode cX5_choice 5 = .ok (.istore_n 2, 1) := by decide +kernel
theorem dX5_choice_6 : decode cX5_choice 6 = .ok (.iload_n 2, 1) := by decide +kernel
theorem dX5_choice_7 : decode cX5_choice 7 = .ok (.ifCond .lt 12, 3) := by decide +kernel
theorem dX5_choice_10 : decode cX5_choice 10 = .ok (.aload_n 0, 1) := by decide +kernel
theorem dX5_choice_11 : decode cX5_choice 11 = .ok (.getfield 41, 3) := by decide +kernel
theorem dX5_choice_14 : decode cX5_choice 14 = .ok (.bipush 63, 2) := by decide +kernel
theorem dX5_choice_16 : decode cX5_choice 16 = .ok (.if_icmp .eq 5, 3) := by decide +kernel
theorem dX5_choice_19 : decode cX5_choice 19 = .ok (.iload_n 2, 1) := by decide +kernel
theorem dX5_choice_20 : decode cX5_choice 20 = .ok (.ireturn, 1) := by decide +kernel
theorem dX5_choice_21 : decode cX5_choice 21 = .ok (.aload_n 0, 1) := by decide +kernel
theorem dX5_choice_22 : decode cX5_choice 22 = .ok (.invokevirtual 34, 3) := by decide +kernel
theorem dX5_choice_25 : decode cX5_choice 25 = .ok (.aload_n 0, 1) := by decide +kernel
theorem dX5_choice_26 : decode cX5_choice 26 = .ok (.iload_n 1, 1) := by decide +kernel
theorem dX5_choice_27 : decode cX5_choice 27 = .ok (.invokevirtual 80, 3) := by decide +kernel
theorem dX5_choice_30 : decode cX5_choice 30 = .ok (.istore_n 3, 1) := by decide +kernel
theorem dX5_choice_31 : decode cX5_choice 31 = .ok (.iload_n 3, 1) := by decide +kernel
theorem dX5_choice_32 : decode cX5_choice 32 = .ok (.ifCond .ge 5, 3) := by decide +kernel
theorem dX5_choice_35 : decode cX5_choice 35 = .ok (.iconst (-1), 1) := by decide +kernel
theorem dX5_choice_36 : decode cX5_choice 36 = .ok (.ireturn, 1) := by decide +kernel
theorem dX5_choice_37 : decode cX5_choice 37 = .ok (.aload_n 0, 1) := by decide +kernel
theorem dX5_choice_38 : decode cX5_choice 38 = .ok (.getfield 41, 3) := by decide +kernel
theorem dX5_choice_41 : decode cX5_choice 41 = .ok (.bipush 58, 2) := by decide +kernel
theorem dX5_choice_43 : decode cX5_choice 43 = .ok (.if_icmp .eq 8, 3) := by decide +kernel
theorem dX5_choice_46 : decode cX5_choice 46 = .ok (.aload_n 0, 1) := by decide +kernel
theorem dX5_choice_47 : decode cX5_choice 47 = .ok (.invokevirtual 44, 3) := by decide +kernel
theorem dX5_choice_50 : decode cX5_choice 50 = .ok (.ireturn, 1) := by decide +kernel
theorem dX5_choice_51 : decode cX5_choice 51 = .ok (.aload_n 0, 1) := by decide +kernel
theorem dX5_choice_52 : decode cX5_choice 52 = .ok (.invokevirtual 34, 3) := by decide +kernel
theorem dX5_choice_55 : decode cX5_choice 55 = .ok (.aload_n 0, 1) := by decide +kernel
theorem dX5_choice_56 : decode cX5_choice 56 = .ok (.iload_n 1, 1) := by decide +kernel
theorem dX5_choice_57 : decode cX5_choice 57 = .ok (.invokevirtual 80, 3) := by decide +kernel
theorem dX5_choice_60 : decode cX5_choice 60 = .ok (.istore 4, 2) := by decide +kernel
theorem dX5_choice_62 : decode cX5_choice 62 = .ok (.iload 4, 2) := by decide +kernel
theorem dX5_choice_64 : decode cX5_choice 64 = .ok (.ifCond .ge 7, 3) := by decide +kernel
theorem dX5_choice_67 : decode cX5_choice 67 = .ok (.iconst (-1), 1) := by decide +kernel
theorem dX5_choice_68 : decode cX5_choice 68 = .ok (.goto 17, 3) := by decide +kernel
theorem dX5_choice_71 : decode cX5_choice 71 = .ok (.aload_n 0, 1) := by decide +kernel
theorem dX5_choice_72 : decode cX5_choice 72 = .ok (.getfield 15, 3) := by decide +kernel
theorem dX5_choice_75 : decode cX5_choice 75 = .ok (.bipush 6, 2) := by decide +kernel
theorem dX5_choice_77 : decode cX5_choice 77 = .ok (.lconst 0, 1) := by decide +kernel
theorem dX5_choice_78 : decode cX5_choice 78 = .ok (.iload_n 2, 1) := by decide +kernel
theorem dX5_choice_79 : decode cX5_choice 79 = .ok (.iload_n 3, 1) := by decide +kernel
theorem dX5_choice_80 : decode cX5_choice 80 = .ok (.iload 4, 2) := by decide +kernel
theorem dX5_choice_82 : decode cX5_choice 82 = .ok (.invokevirtual 83, 3) := by decide +kernel
theorem dX5_choice_85 : decode cX5_choice 85 = .ok (.ireturn, 1) := by decide +kernel
theorem dX5_sum_0 : decode cX5_sum 0 = .ok (.aload_n 0, 1) := by decide +kernel
theorem dX5_sum_1 : decode cX5_sum 1 = .ok (.iload_n 1, 1) := by decide +kernel
theorem dX5_sum_2 : decode cX5_sum 2 = .ok (.invokevirtual 87, 3) := by decide +kernel
theorem dX5_sum_5 : decode cX5_sum 5 = .ok (.istore_n 2, 1) := by decide +kernel
theorem dX5_sum_6 : decode cX5_sum 6 = .ok (.iconst 0, 1) := by decide +kernel
theorem dX5_sum_7 : decode cX5_sum 7 = .ok (.istore_n 3, 1) := by decide +kernel
theorem dX5_sum_8 : decode cX5_sum 8 = .ok (.iload_n 3, 1) := by decide +kernel
theorem dX5_sum_9 : decode cX5_sum 9 = .ok (.bipush 120, 2) := by decide +kernel
theorem dX5_sum_11 : decode cX5_sum 11 = .ok (.if_icmp .ge 96, 3) := by decide +kernel
theorem dX5_sum_14 : decode cX5_sum 14 = .ok (.iload_n 2, 1) := by decide +kernel
theorem dX5_sum_15 : decode cX5_sum 15 = .ok (.ifCond .lt 92, 3) := by decide +kernel
theorem dX5_sum_18 : decode cX5_sum 18 = .ok (.aload_n 0, 1) := by decide +kernel
theorem dX5_sum_19 : decode cX5_sum 19 = .ok (.getfield 41, 3) := by decide +kernel
theorem dX5_sum_22 : decode cX5_sum 22 = .ok (.bipush 43, 2) := by decide +kernel
theorem dX5_sum_24 : decode cX5_sum 24 = .ok (.if_icmp .eq 12, 3) := by decide +kernel
theorem dX5_sum_27 : decode cX5_sum 27 = .ok (.aload_n 0, 1) := by decide +kernel
theorem dX5_sum_28 : decode cX5_sum 28 = .ok (.getfield 41, 3) := by decide +kernel
theorem dX5_sum_31 : decode cX5_sum 31 = .ok (.bipush 45, 2) := by decide +kernel
theorem dX5_sum_33 : decode cX5_sum 33 = .ok (.if_icmp .ne 74, 3) := by decide +kernel
theorem dX5_sum_36 : decode cX5_sum 36 = .ok (.aload_n 0, 1) := by decide +kernel
theorem dX5_sum_37 : decode cX5_sum 37 = .ok (.getfield 41, 3) := by decide +kernel
theorem dX5_sum_40 : decode cX5_sum 40 = .ok (.bipush 45, 2) := by decide +kernel
theorem dX5_sum_42 : decode cX5_sum 42 = .ok (.if_icmp .ne 7, 3) := by decide +kernel
theorem dX5_sum_45 : decode cX5_sum 45 = .ok (.iconst 1, 1) := by decide +kernel
theorem dX5_sum_46 : decode cX5_sum 46 = .ok (.goto 4, 3) := by decide +kernel
theorem dX5_sum_49 : decode cX5_sum 49 = .ok (.iconst 0, 1) := by decide +kernel
theorem dX5_sum_50 : decode cX5_sum 50 = .ok (.istore 4, 2) := by decide +kernel
theorem dX5_sum_52 : decode cX5_sum 52 = .ok (.aload_n 0, 1) := by decide +kernel
theorem dX5_sum_53 : decode cX5_sum 53 = .ok (.invokevirtual 34, 3) := by decide +kernel
theorem dX5_sum_56 : decode cX5_sum 56 = .ok (.aload_n 0, 1) := by decide +kernel
theorem dX5_sum_57 : decode cX5_sum 57 = .ok (.iload_n 1, 1) := by decide +kernel
theorem dX5_sum_58 : decode cX5_sum 58 = .ok (.invokevirtual 87, 3) := by decide +kernel
theorem dX5_sum_61 : decode cX5_sum 61 = .ok (.istore 5, 2) := by decide +kernel
theorem dX5_sum_63 : decode cX5_sum 63 = .ok (.iload 5, 2) := by decide +kernel
theorem dX5_sum_65 : decode cX5_sum 65 = .ok (.ifCond .ge 5, 3) := by decide +kernel
theorem dX5_sum_68 : decode cX5_sum 68 = .ok (.iconst (-1), 1) := by decide +kernel
theorem dX5_sum_69 : decode cX5_sum 69 = .ok (.ireturn, 1) := by decide +kernel
theorem dX5_sum_70 : decode cX5_sum 70 = .ok (.aload_n 0, 1) := by decide +kernel
theorem dX5_sum_71 : decode cX5_sum 71 = .ok (.getfield 15, 3) := by decide +kernel
theorem dX5_sum_74 : decode cX5_sum 74 = .ok (.iconst 3, 1) := by decide +kernel
theorem dX5_sum_75 : decode cX5_sum 75 = .ok (.iload_n 2, 1) := by decide +kernel
theorem dX5_sum_76 : decode cX5_sum 76 = .ok (.iload 4, 2) := by decide +kernel
theorem dX5_sum_78 : decode cX5_sum 78 = .ok (.ifCond .eq 17, 3) := by decide +kernel
theorem dX5_sum_81 : decode cX5_sum 81 = .ok (.aload_n 0, 1) := by decide +kernel
theorem dX5_sum_82 : decode cX5_sum 82 = .ok (.getfield 15, 3) := by decide +kernel
theorem dX5_sum_85 : decode cX5_sum 85 = .ok (.iconst 2, 1) := by decide +kernel
theorem dX5_sum_86 : decode cX5_sum 86 = .ok (.iload 5, 2) := by decide +kernel
theorem dX5_sum_88 : decode cX5_sum 88 = .ok (.iconst (-1), 1) := by decide +kernel
theorem dX5_sum_89 : decode cX5_sum 89 = .ok (.invokevirtual 90, 3) := by decide +kernel
theorem dX5_sum_92 : decode cX5_sum 92 = .ok (.goto 5, 3) := by decide +kernel
theorem dX5_sum_95 : decode cX5_sum 95 = .ok (.iload 5, 2) := by decide +kernel
theorem dX5_sum_97 : decode cX5_sum 97 = .ok (.invokevirtual 90, 3) := by decide +kernel
theorem dX5_sum_100 : decode cX5_sum 100 = .ok (.istore_n 2, 1) := by decide +kernel
theorem dX5_sum_101 : decode cX5_sum 101 = .ok (.iinc 3 1, 3) := by decide +kernel
theorem dX5_sum_104 : decode cX5_sum 104 = .ok (.goto (-96), 3) := by decide +kernel
theorem dX5_sum_107 : decode cX5_sum 107 = .ok (.iload_n 2, 1) := by decide +kernel
theorem dX5_sum_108 : decode cX5_sum 108 = .ok (.ireturn, 1) := by decide +kernel
theorem dX5_term_0 : decode cX5_term 0 = .ok (.aload_n 0, 1) := by decide +kernel
theorem dX5_term_1 : decode cX5_term 1 = .ok (.iload_n 1, 1) := by decide +kernel
theorem dX5_term_2 : decode cX5_term 2 = .ok (.invokevirtual 94, 3) := by decide +kernel
theorem dX5_term_5 : decode cX5_term 5 = .ok (.istore_n 2, 1) := by decide +kernel
theorem dX5_term_6 : decode cX5_term 6 = .ok (.iconst 0, 1) := by decide +kernel
theorem dX5_term_7 : decode cX5_term 7 = .ok (.istore_n 3, 1) := by decide +kernel
theorem dX5_term_8 : decode cX5_term 8 = .ok (.iload_n 3, 1) := by decide +kernel
theorem dX5_term_9 : decode cX5_term 9 = .ok (.bipush 120, 2) := by decide +kernel
theorem dX5_term_11 : decode cX5_term 11 = .ok (.if_icmp .ge 52, 3) := by decide +kernel
theorem dX5_term_14 : decode cX5_term 14 = .ok (.iload_n 2, 1) := by decide +kernel
theorem dX5_term_15 : decode cX5_term 15 = .ok (.ifCond .lt 48, 3) := by decide +kernel
theorem dX5_term_18 : decode cX5_term 18 = .ok (.aload_n 0, 1) := by decide +kernel
theorem dX5_term_19 : decode cX5_term 19 = .ok (.getfield 41, 3) := by decide +kernel
theorem dX5_term_22 : decode cX5_term 22 = .ok (.bipush 42, 2) := by decide +kernel
theorem dX5_term_24 : decode cX5_term 24 = .ok (.if_icmp .ne 39, 3) := by decide +kernel
theorem dX5_term_27 : decode cX5_term 27 = .ok (.aload_n 0, 1) := by decide +kernel
theorem dX5_term_28 : decode cX5_term 28 = .ok (.invokevirtual 34, 3) := by decide +kernel
theorem dX5_term_31 : decode cX5_term 31 = .ok (.aload_n 0, 1) := by decide +kernel
theorem dX5_term_32 : decode cX5_term 32 = .ok (.iload_n 1, 1) := by decide +kernel
theorem dX5_term_33 : decode cX5_term 33 = .ok (.invokevirtual 94, 3) := by decide +kernel
theorem dX5_term_36 : decode cX5_term 36 = .ok (.istore 4, 2) := by decide +kernel
theorem dX5_term_38 : decode cX5_term 38 = .ok (.iload 4, 2) := by decide +kernel
theorem dX5_term_40 : decode cX5_term 40 = .ok (.ifCond .ge 5, 3) := by decide +kernel
theorem dX5_term_43 : decode cX5_term 43 = .ok (.iconst (-1), 1) := by decide +kernel
theorem dX5_term_44 : decode cX5_term 44 = .ok (.ireturn, 1) := by decide +kernel
theorem dX5_term_45 : decode cX5_term 45 = .ok (.aload_n 0, 1) := by decide +kernel
theorem dX5_term_46 : decode cX5_term 46 = .ok (.getfield 15, 3) := by decide +kernel
theorem dX5_term_49 : decode cX5_term 49 = .ok (.iconst 4, 1) := by decide +kernel
theorem dX5_term_50 : decode cX5_term 50 = .ok (.iload_n 2, 1) := by decide +kernel
theorem dX5_term_51 : decode cX5_term 51 = .ok (.iload 4, 2) := by decide +kernel
theorem dX5_term_53 : decode cX5_term 53 = .ok (.invokevirtual 90, 3) := by decide +kernel
theorem dX5_term_56 : decode cX5_term 56 = .ok (.istore_n 2, 1) := by decide +kernel
theorem dX5_term_57 : decode cX5_term 57 = .ok (.iinc 3 1, 3) := by decide +kernel
theorem dX5_term_60 : decode cX5_term 60 = .ok (.goto (-52), 3) := by decide +kernel
theorem dX5_term_63 : decode cX5_term 63 = .ok (.iload_n 2, 1) := by decide +kernel
theorem dX5_term_64 : decode cX5_term 64 = .ok (.ireturn, 1) := by decide +kernel
theorem dX5_pow_0 : decode cX5_pow 0 = .ok (.aload_n 0, 1) := by decide +kernel
theorem dX5_pow_1 : decode cX5_pow 1 = .ok (.iload_n 1, 1) := by decide +kernel
theorem dX5_pow_2 : decode cX5_pow 2 = .ok (.invokevirtual 97, 3) := by decide +kernel
theorem dX5_pow_5 : decode cX5_pow 5 = .ok (.istore_n 2, 1) := by decide +kernel
theorem dX5_pow_6 : decode cX5_pow 6 = .ok (.iconst 0, 1) := by decide +kernel
theorem dX5_pow_7 : decode cX5_pow 7 = .ok (.istore_n 3, 1) := by decide +kernel
theorem dX5_pow_8 : decode cX5_pow 8 = .ok (.iload_n 3, 1) := by decide +kernel
theorem dX5_pow_9 : decode cX5_pow 9 = .ok (.bipush 120, 2) := by decide +kernel
theorem dX5_pow_11 : decode cX5_pow 11 = .ok (.if_icmp .ge 69, 3) := by decide +kernel
theorem dX5_pow_14 : decode cX5_pow 14 = .ok (.iload_n 2, 1) := by decide +kernel
theorem dX5_pow_15 : decode cX5_pow 15 = .ok (.ifCond .lt 65, 3) := by decide +kernel
theorem dX5_pow_18 : decode cX5_pow 18 = .ok (.aload_n 0, 1) := by decide +kernel
theorem dX5_pow_19 : decode cX5_pow 19 = .ok (.getfield 41, 3) := by decide +kernel
theorem dX5_pow_22 : decode cX5_pow 22 = .ok (.bipush 94, 2) := by decide +kernel
theorem dX5_pow_24 : decode cX5_pow 24 = .ok (.if_icmp .ne 56, 3) := by decide +kernel
theorem dX5_pow_27 : decode cX5_pow 27 = .ok (.aload_n 0, 1) := by decide +kernel
theorem dX5_pow_28 : decode cX5_pow 28 = .ok (.invokevirtual 34, 3) := by decide +kernel
theorem dX5_pow_31 : decode cX5_pow 31 = .ok (.aload_n 0, 1) := by decide +kernel
theorem dX5_pow_32 : decode cX5_pow 32 = .ok (.getfield 41, 3) := by decide +kernel
theorem dX5_pow_35 : decode cX5_pow 35 = .ok (.iconst 3, 1) := by decide +kernel
theorem dX5_pow_36 : decode cX5_pow 36 = .ok (.if_icmp .ne 12, 3) := by decide +kernel
theorem dX5_pow_39 : decode cX5_pow 39 = .ok (.aload_n 0, 1) := by decide +kernel
theorem dX5_pow_40 : decode cX5_pow 40 = .ok (.getfield 74, 3) := by decide +kernel
theorem dX5_pow_43 : decode cX5_pow 43 = .ok (.bipush 9, 2) := by decide +kernel
theorem dX5_pow_45 : decode cX5_pow 45 = .ok (.if_icmp .le 8, 3) := by decide +kernel
theorem dX5_pow_48 : decode cX5_pow 48 = .ok (.aload_n 0, 1) := by decide +kernel
theorem dX5_pow_49 : decode cX5_pow 49 = .ok (.invokevirtual 44, 3) := by decide +kernel
theorem dX5_pow_52 : decode cX5_pow 52 = .ok (.ireturn, 1) := by decide +kernel
theorem dX5_pow_53 : decode cX5_pow 53 = .ok (.aload_n 0, 1) := by decide +kernel
theorem dX5_pow_54 : decode cX5_pow 54 = .ok (.getfield 15, 3) := by decide +kernel
theorem dX5_pow_57 : decode cX5_pow 57 = .ok (.iconst 5, 1) := by decide +kernel
theorem dX5_pow_58 : decode cX5_pow 58 = .ok (.aload_n 0, 1) := by decide +kernel
theorem dX5_pow_59 : decode cX5_pow 59 = .ok (.getfield 74, 3) := by decide +kernel
theorem dX5_pow_62 : decode cX5_pow 62 = .ok (.i2l, 1) := by decide +kernel
theorem dX5_pow_63 : decode cX5_pow 63 = .ok (.iload_n 2, 1) := by decide +kernel
theorem dX5_pow_64 : decode cX5_pow 64 = .ok (.iconst (-1), 1) := by decide +kernel
theorem dX5_pow_65 : decode cX5_pow 65 = .ok (.iconst (-1), 1) := by decide +kernel
theorem dX5_pow_66 : decode cX5_pow 66 = .ok (.invokevirtual 83, 3) := by decide +kernel
theorem dX5_pow_69 : decode cX5_pow 69 = .ok (.istore_n 2, 1) := by decide +kernel
theorem dX5_pow_70 : decode cX5_pow 70 = .ok (.aload_n 0, 1) := by decide +kernel
theorem dX5_pow_71 : decode cX5_pow 71 = .ok (.invokevirtual 34, 3) := by decide +kernel
theorem dX5_pow_74 : decode cX5_pow 74 = .ok (.iinc 3 1, 3) := by decide +kernel
theorem dX5_pow_77 : decode cX5_pow 77 = .ok (.goto (-69), 3) := by decide +kernel
theorem dX5_pow_80 : decode cX5_pow 80 = .ok (.iload_n 2, 1) := by decide +kernel
theorem dX5_pow_81 : decode cX5_pow 81 = .ok (.ireturn, 1) := by decide +kernel
theorem dX5_one_0 : decode cX5_one 0 = .ok (.aload_n 0, 1) := by decide +kernel
theorem dX5_one_1 : decode cX5_one 1 = .ok (.getfield 41, 3) := by decide +kernel
theorem dX5_one_4 : decode cX5_one 4 = .ok (.lookupswitch 126 #[(2, 58), (3, 52), (40, 84), (45, 64), (91, 106)], 52) := by decide +kernel
theorem dX5_one_56 : decode cX5_one 56 = .ok (.aload_n 0, 1) := by decide +kernel
theorem dX5_one_57 : decode cX5_one 57 = .ok (.iconst 0, 1) := by decide +kernel
theorem dX5_one_58 : decode cX5_one 58 = .ok (.invokevirtual 100, 3) := by decide +kernel
theorem dX5_one_61 : decode cX5_one 61 = .ok (.ireturn, 1) := by decide +kernel
theorem dX5_one_62 : decode cX5_one 62 = .ok (.aload_n 0, 1) := by decide +kernel
theorem dX5_one_63 : decode cX5_one 63 = .ok (.iconst 1, 1) := by decide +kernel
theorem dX5_one_64 : decode cX5_one 64 = .ok (.invokevirtual 100, 3) := by decide +kernel
theorem dX5_one_67 : decode cX5_one 67 = .ok (.ireturn, 1) := by decide +kernel
theorem dX5_one_68 : decode cX5_one 68 = .ok (.iload_n 1, 1) := by decide +kernel
theorem dX5_one_69 : decode cX5_one 69 = .ok (.iconst 5, 1) := by decide +kernel
theorem dX5_one_70 : decode cX5_one 70 = .ok (.if_icmp .ge 13, 3) := by decide +kernel
theorem dX5_one_73 : decode cX5_one 73 = .ok (.aload_n 0, 1) := by decide +kernel
theorem dX5_one_74 : decode cX5_one 74 = .ok (.iload_n 1, 1) := by decide +kernel
theorem dX5_one_75 : decode cX5_one 75 = .ok (.iconst 1, 1) := by decide +kernel
theorem dX5_one_76 : decode cX5_one 76 = .ok (.iadd, 1) := by decide +kernel
theorem dX5_one_77 : decode cX5_one 77 = .ok (.invokevirtual 103, 3) := by decide +kernel
theorem dX5_one_80 : decode cX5_one 80 = .ok (.goto 7, 3) := by decide +kernel
theorem dX5_one_83 : decode cX5_one 83 = .ok (.aload_n 0, 1) := by decide +kernel
theorem dX5_one_84 : decode cX5_one 84 = .ok (.invokevirtual 44, 3) := by decide +kernel
theorem dX5_one_87 : decode cX5_one 87 = .ok (.ireturn, 1) := by decide +kernel
theorem dX5_one_88 : decode cX5_one 88 = .ok (.iload_n 1, 1) := by decide +kernel
theorem dX5_one_89 : decode cX5_one 89 = .ok (.iconst 5, 1) := by decide +kernel
theorem dX5_one_90 : decode cX5_one 90 = .ok (.if_icmp .ge 15, 3) := by decide +kernel
theorem dX5_one_93 : decode cX5_one 93 = .ok (.aload_n 0, 1) := by decide +kernel
theorem dX5_one_94 : decode cX5_one 94 = .ok (.iload_n 1, 1) := by decide +kernel
theorem dX5_one_95 : decode cX5_one 95 = .ok (.iconst 1, 1) := by decide +kernel
theorem dX5_one_96 : decode cX5_one 96 = .ok (.iadd, 1) := by decide +kernel
theorem dX5_one_97 : decode cX5_one 97 = .ok (.bipush 41, 2) := by decide +kernel
theorem dX5_one_99 : decode cX5_one 99 = .ok (.invokevirtual 106, 3) := by decide +kernel
theorem dX5_one_102 : decode cX5_one 102 = .ok (.goto 7, 3) := by decide +kernel
theorem dX5_one_105 : decode cX5_one 105 = .ok (.aload_n 0, 1) := by decide +kernel
theorem dX5_one_106 : decode cX5_one 106 = .ok (.invokevirtual 44, 3) := by decide +kernel
theorem dX5_one_109 : decode cX5_one 109 = .ok (.ireturn, 1) := by decide +kernel
theorem dX5_one_110 : decode cX5_one 110 = .ok (.iload_n 1, 1) := by decide +kernel
theorem dX5_one_111 : decode cX5_one 111 = .ok (.iconst 5, 1) := by decide +kernel
theorem dX5_one_112 : decode cX5_one 112 = .ok (.if_icmp .ge 13, 3) := by decide +kernel
theorem dX5_one_115 : decode cX5_one 115 = .ok (.aload_n 0, 1) := by decide +kernel
theorem dX5_one_116 : decode cX5_one 116 = .ok (.iload_n 1, 1) := by decide +kernel
theorem dX5_one_117 : decode cX5_one 117 = .ok (.iconst 1, 1) := by decide +kernel
theorem dX5_one_118 : decode cX5_one 118 = .ok (.iadd, 1) := by decide +kernel
theorem dX5_one_119 : decode cX5_one 119 = .ok (.invokevirtual 110, 3) := by decide +kernel
theorem dX5_one_122 : decode cX5_one 122 = .ok (.goto 7, 3) := by decide +kernel
theorem dX5_one_125 : decode cX5_one 125 = .ok (.aload_n 0, 1) := by decide +kernel
theorem dX5_one_126 : decode cX5_one 126 = .ok (.invokevirtual 44, 3) := by decide +kernel
theorem dX5_one_129 : decode cX5_one 129 = .ok (.ireturn, 1) := by decide +kernel
theorem dX5_one_130 : decode cX5_one 130 = .ok (.aload_n 0, 1) := by decide +kernel
theorem dX5_one_131 : decode cX5_one 131 = .ok (.invokevirtual 44, 3) := by decide +kernel
theorem dX5_one_134 : decode cX5_one 134 = .ok (.ireturn, 1) := by decide +kernel
theorem dX5_leafOf_0 : decode cX5_leafOf 0 = .ok (.aload_n 0, 1) := by decide +kernel
theorem dX5_leafOf_1 : decode cX5_leafOf 1 = .ok (.getfield 15, 3) := by decide +kernel
theorem dX5_leafOf_4 : decode cX5_leafOf 4 = .ok (.iload_n 1, 1) := by decide +kernel
theorem dX5_leafOf_5 : decode cX5_leafOf 5 = .ok (.aload_n 0, 1) := by decide +kernel
theorem dX5_leafOf_6 : decode cX5_leafOf 6 = .ok (.getfield 74, 3) := by decide +kernel
theorem dX5_leafOf_9 : decode cX5_leafOf 9 = .ok (.i2l, 1) := by decide +kernel
theorem dX5_leafOf_10 : decode cX5_leafOf 10 = .ok (.invokevirtual 113, 3) := by decide +kernel
theorem dX5_leafOf_13 : decode cX5_leafOf 13 = .ok (.istore_n 2, 1) := by decide +kernel
theorem dX5_leafOf_14 : decode cX5_leafOf 14 = .ok (.aload_n 0, 1) := by decide +kernel
theorem dX5_leafOf_15 : decode cX5_leafOf 15 = .ok (.invokevirtual 34, 3) := by decide +kernel
theorem dX5_leafOf_18 : decode cX5_leafOf 18 = .ok (.iload_n 2, 1) := by decide +kernel
theorem dX5_leafOf_19 : decode cX5_leafOf 19 = .ok (.ireturn, 1) := by decide +kernel
theorem dX5_negated_0 : decode cX5_negated 0 = .ok (.aload_n 0, 1) := by decide +kernel
theorem dX5_negated_1 : decode cX5_negated 1 = .ok (.invokevirtual 34, 3) := by decide +kernel
theorem dX5_negated_4 : decode cX5_negated 4 = .ok (.aload_n 0, 1) := by decide +kernel
theorem dX5_negated_5 : decode cX5_negated 5 = .ok (.iload_n 1, 1) := by decide +kernel
theorem dX5_negated_6 : decode cX5_negated 6 = .ok (.invokevirtual 97, 3) := by decide +kernel
theorem dX5_negated_9 : decode cX5_negated 9 = .ok (.istore_n 2, 1) := by decide +kernel
theorem dX5_negated_10 : decode cX5_negated 10 = .ok (.iload_n 2, 1) := by decide +kernel
theorem dX5_negated_11 : decode cX5_negated 11 = .ok (.ifCond .ge 7, 3) := by decide +kernel
theorem dX5_negated_14 : decode cX5_negated 14 = .ok (.iconst (-1), 1) := by decide +kernel
theorem dX5_negated_15 : decode cX5_negated 15 = .ok (.goto 13, 3) := by decide +kernel
theorem dX5_negated_18 : decode cX5_negated 18 = .ok (.aload_n 0, 1) := by decide +kernel
theorem dX5_negated_19 : decode cX5_negated 19 = .ok (.getfield 15, 3) := by decide +kernel
theorem dX5_negated_22 : decode cX5_negated 22 = .ok (.iconst 2, 1) := by decide +kernel
theorem dX5_negated_23 : decode cX5_negated 23 = .ok (.iload_n 2, 1) := by decide +kernel
theorem dX5_negated_24 : decode cX5_negated 24 = .ok (.iconst (-1), 1) := by decide +kernel
theorem dX5_negated_25 : decode cX5_negated 25 = .ok (.invokevirtual 90, 3) := by decide +kernel
theorem dX5_negated_28 : decode cX5_negated 28 = .ok (.ireturn, 1) := by decide +kernel
theorem dX5_squared_0 : decode cX5_squared 0 = .ok (.aload_n 0, 1) := by decide +kernel
theorem dX5_squared_1 : decode cX5_squared 1 = .ok (.iload_n 1, 1) := by decide +kernel
theorem dX5_squared_2 : decode cX5_squared 2 = .ok (.bipush 93, 2) := by decide +kernel
theorem dX5_squared_4 : decode cX5_squared 4 = .ok (.invokevirtual 106, 3) := by decide +kernel
theorem dX5_squared_7 : decode cX5_squared 7 = .ok (.istore_n 2, 1) := by decide +kernel
theorem dX5_squared_8 : decode cX5_squared 8 = .ok (.iload_n 2, 1) := by decide +kernel
theorem dX5_squared_9 : decode cX5_squared 9 = .ok (.ifCond .ge 7, 3) := by decide +kernel
theorem dX5_squared_12 : decode cX5_squared 12 = .ok (.iconst (-1), 1) := by decide +kernel
theorem dX5_squared_13 : decode cX5_squared 13 = .ok (.goto 14, 3) := by decide +kernel
theorem dX5_squared_16 : decode cX5_squared 16 = .ok (.aload_n 0, 1) := by decide +kernel
theorem dX5_squared_17 : decode cX5_squared 17 = .ok (.getfield 15, 3) := by decide +kernel
theorem dX5_squared_20 : decode cX5_squared 20 = .ok (.bipush 7, 2) := by decide +kernel
theorem dX5_squared_22 : decode cX5_squared 22 = .ok (.iload_n 2, 1) := by decide +kernel
theorem dX5_squared_23 : decode cX5_squared 23 = .ok (.iconst (-1), 1) := by decide +kernel
theorem dX5_squared_24 : decode cX5_squared 24 = .ok (.invokevirtual 90, 3) := by decide +kernel
theorem dX5_squared_27 : decode cX5_squared 27 = .ok (.ireturn, 1) := by decide +kernel
theorem dX5_enclosed_0 : decode cX5_enclosed 0 = .ok (.aload_n 0, 1) := by decide +kernel
theorem dX5_enclosed_1 : decode cX5_enclosed 1 = .ok (.invokevirtual 34, 3) := by decide +kernel
theorem dX5_enclosed_4 : decode cX5_enclosed 4 = .ok (.aload_n 0, 1) := by decide +kernel
theorem dX5_enclosed_5 : decode cX5_enclosed 5 = .ok (.iload_n 1, 1) := by decide +kernel
theorem dX5_enclosed_6 : decode cX5_enclosed 6 = .ok (.invokevirtual 37, 3) := by decide +kernel
theorem dX5_enclosed_9 : decode cX5_enclosed 9 = .ok (.istore_n 3, 1) := by decide +kernel
theorem dX5_enclosed_10 : decode cX5_enclosed 10 = .ok (.iload_n 3, 1) := by decide +kernel
theorem dX5_enclosed_11 : decode cX5_enclosed 11 = .ok (.ifCond .ge 5, 3) := by decide +kernel
theorem dX5_enclosed_14 : decode cX5_enclosed 14 = .ok (.iconst (-1), 1) := by decide +kernel
theorem dX5_enclosed_15 : decode cX5_enclosed 15 = .ok (.ireturn, 1) := by decide +kernel
theorem dX5_enclosed_16 : decode cX5_enclosed 16 = .ok (.aload_n 0, 1) := by decide +kernel
theorem dX5_enclosed_17 : decode cX5_enclosed 17 = .ok (.getfield 41, 3) := by decide +kernel
theorem dX5_enclosed_20 : decode cX5_enclosed 20 = .ok (.iload_n 2, 1) := by decide +kernel
theorem dX5_enclosed_21 : decode cX5_enclosed 21 = .ok (.if_icmp .eq 8, 3) := by decide +kernel
theorem dX5_enclosed_24 : decode cX5_enclosed 24 = .ok (.aload_n 0, 1) := by decide +kernel
theorem dX5_enclosed_25 : decode cX5_enclosed 25 = .ok (.invokevirtual 44, 3) := by decide +kernel
theorem dX5_enclosed_28 : decode cX5_enclosed 28 = .ok (.ireturn, 1) := by decide +kernel
theorem dX5_enclosed_29 : decode cX5_enclosed 29 = .ok (.aload_n 0, 1) := by decide +kernel
theorem dX5_enclosed_30 : decode cX5_enclosed 30 = .ok (.invokevirtual 34, 3) := by decide +kernel
theorem dX5_enclosed_33 : decode cX5_enclosed 33 = .ok (.iload_n 3, 1) := by decide +kernel
theorem dX5_enclosed_34 : decode cX5_enclosed 34 = .ok (.ireturn, 1) := by decide +kernel
theorem dX6_init_0 : decode cX6_init 0 = .ok (.aload_n 0, 1) := by decide +kernel
theorem dX6_init_1 : decode cX6_init 1 = .ok (.invokespecial 3, 3) := by decide +kernel
theorem dX6_init_4 : decode cX6_init 4 = .ok (.aload_n 0, 1) := by decide +kernel
theorem dX6_init_5 : decode cX6_init 5 = .ok (.bipush 40, 2) := by decide +kernel
theorem dX6_init_7 : decode cX6_init 7 = .ok (.newarray .int, 2) := by decide +kernel
theorem dX6_init_9 : decode cX6_init 9 = .ok (.putfield 9, 3) := by decide +kernel
theorem dX6_init_12 : decode cX6_init 12 = .ok (.aload_n 0, 1) := by decide +kernel
theorem dX6_init_13 : decode cX6_init 13 = .ok (.iconst (-1), 1) := by decide +kernel
theorem dX6_init_14 : decode cX6_init 14 = .ok (.putfield 15, 3) := by decide +kernel
theorem dX6_init_17 : decode cX6_init 17 = .ok (.return_, 1) := by decide +kernel
theorem dX6_isMissing_0 : decode cX6_isMissing 0 = .ok (.aload_n 0, 1) := by decide +kernel
theorem dX6_isMissing_1 : decode cX6_isMissing 1 = .ok (.getfield 15, 3) := by decide +kernel
theorem dX6_isMissing_4 : decode cX6_isMissing 4 = .ok (.ifCond .ge 7, 3) := by decide +kernel
theorem dX6_isMissing_7 : decode cX6_isMissing 7 = .ok (.iconst 1, 1) := by decide +kernel
theorem dX6_isMissing_8 : decode cX6_isMissing 8 = .ok (.goto 4, 3) := by decide +kernel
theorem dX6_isMissing_11 : decode cX6_isMissing 11 = .ok (.iconst 0, 1) := by decide +kernel
theorem dX6_isMissing_12 : decode cX6_isMissing 12 = .ok (.ireturn, 1) := by decide +kernel
theorem dX6_sort_0 : decode cX6_sort 0 = .ok (.aload_n 0, 1) := by decide +kernel
theorem dX6_sort_1 : decode cX6_sort 1 = .ok (.getfield 15, 3) := by decide +kernel
theorem dX6_sort_4 : decode cX6_sort 4 = .ok (.ireturn, 1) := by decide +kernel
theorem dX6_size_0 : decode cX6_size 0 = .ok (.aload_n 0, 1) := by decide +kernel
theorem dX6_size_1 : decode cX6_size 1 = .ok (.getfield 19, 3) := by decide +kernel
theorem dX6_size_4 : decode cX6_size 4 = .ok (.ireturn, 1) := by decide +kernel
theorem dX6_remove_0 : decode cX6_remove 0 = .ok (.aload_n 0, 1) := by decide +kernel
theorem dX6_remove_1 : decode cX6_remove 1 = .ok (.iconst (-1), 1) := by decide +kernel
theorem dX6_remove_2 : decode cX6_remove 2 = .ok (.putfield 15, 3) := by decide +kernel
theorem dX6_remove_5 : decode cX6_remove 5 = .ok (.aload_n 0, 1) := by decide +kernel
theorem dX6_remove_6 : decode cX6_remove 6 = .ok (.iconst 0, 1) := by decide +kernel
theorem dX6_remove_7 : decode cX6_remove 7 = .ok (.putfield 19, 3) := by decide +kernel
theorem dX6_remove_10 : decode cX6_remove 10 = .ok (.return_, 1) := by decide +kernel
theorem dX6_begin_0 : decode cX6_begin 0 = .ok (.aload_n 0, 1) := by decide +kernel
theorem dX6_begin_1 : decode cX6_begin 1 = .ok (.iload_n 1, 1) := by decide +kernel
theorem dX6_begin_2 : decode cX6_begin 2 = .ok (.putfield 15, 3) := by decide +kernel
theorem dX6_begin_5 : decode cX6_begin 5 = .ok (.aload_n 0, 1) := by decide +kernel
theorem dX6_begin_6 : decode cX6_begin 6 = .ok (.iconst 0, 1) := by decide +kernel
theorem dX6_begin_7 : decode cX6_begin 7 = .ok (.bipush 40, 2) := by decide +kernel
theorem dX6_begin_9 : decode cX6_begin 9 = .ok (.iload_n 2, 1) := by decide +kernel
theorem dX6_begin_10 : decode cX6_begin 10 = .ok (.invokestatic 22, 3) := by decide +kernel
theorem dX6_begin_13 : decode cX6_begin 13 = .ok (.invokestatic 28, 3) := by decide +kernel
theorem dX6_begin_16 : decode cX6_begin 16 = .ok (.putfield 19, 3) := by decide +kernel
theorem dX6_begin_19 : decode cX6_begin 19 = .ok (.iconst 0, 1) := by decide +kernel
theorem dX6_begin_20 : decode cX6_begin 20 = .ok (.istore_n 3, 1) := by decide +kernel
theorem dX6_begin_21 : decode cX6_begin 21 = .ok (.iload_n 3, 1) := by decide +kernel
theorem dX6_begin_22 : decode cX6_begin 22 = .ok (.aload_n 0, 1) := by decide +kernel
theorem dX6_begin_23 : decode cX6_begin 23 = .ok (.getfield 19, 3) := by decide +kernel
theorem dX6_begin_26 : decode cX6_begin 26 = .ok (.if_icmp .ge 16, 3) := by decide +kernel
theorem dX6_begin_29 : decode cX6_begin 29 = .ok (.aload_n 0, 1) := by decide +kernel
theorem dX6_begin_30 : decode cX6_begin 30 = .ok (.getfield 9, 3) := by decide +kernel
theorem dX6_begin_33 : decode cX6_begin 33 = .ok (.iload_n 3, 1) := by decide +kernel
theorem dX6_begin_34 : decode cX6_begin 34 = .ok (.iconst 0, 1) := by decide +kernel
theorem dX6_begin_35 : decode cX6_begin 35 = .ok (.iastore, 1) := by decide +kernel
theorem dX6_begin_36 : decode cX6_begin 36 = .ok (.iinc 3 1, 3) := by decide +kernel
theorem dX6_begin_39 : decode cX6_begin 39 = .ok (.goto (-18), 3) := by decide +kernel
theorem dX6_begin_42 : decode cX6_begin 42 = .ok (.return_, 1) := by decide +kernel
theorem dX6_at_0 : decode cX6_at 0 = .ok (.iload_n 1, 1) := by decide +kernel
theorem dX6_at_1 : decode cX6_at 1 = .ok (.ifCond .lt 20, 3) := by decide +kernel
theorem dX6_at_4 : decode cX6_at 4 = .ok (.iload_n 1, 1) := by decide +kernel
theorem dX6_at_5 : decode cX6_at 5 = .ok (.aload_n 0, 1) := by decide +kernel
theorem dX6_at_6 : decode cX6_at 6 = .ok (.getfield 19, 3) := by decide +kernel
theorem dX6_at_9 : decode cX6_at 9 = .ok (.if_icmp .ge 12, 3) := by decide +kernel
theorem dX6_at_12 : decode cX6_at 12 = .ok (.aload_n 0, 1) := by decide +kernel
theorem dX6_at_13 : decode cX6_at 13 = .ok (.getfield 9, 3) := by decide +kernel
theorem dX6_at_16 : decode cX6_at 16 = .ok (.iload_n 1, 1) := by decide +kernel
theorem dX6_at_17 : decode cX6_at 17 = .ok (.iaload, 1) := by decide +kernel
theorem dX6_at_18 : decode cX6_at 18 = .ok (.goto 4, 3) := by decide +kernel
theorem dX6_at_21 : decode cX6_at 21 = .ok (.iconst 0, 1) := by decide +kernel
theorem dX6_at_22 : decode cX6_at 22 = .ok (.ireturn, 1) := by decide +kernel
theorem dX6_set_0 : decode cX6_set 0 = .ok (.iload_n 1, 1) := by decide +kernel
theorem dX6_set_1 : decode cX6_set 1 = .ok (.ifCond .lt 30, 3) := by decide +kernel
theorem dX6_set_4 : decode cX6_set 4 = .ok (.iload_n 1, 1) := by decide +kernel
theorem dX6_set_5 : decode cX6_set 5 = .ok (.aload_n 0, 1) := by decide +kernel
theorem dX6_set_6 : decode cX6_set 6 = .ok (.getfield 19, 3) := by decide +kernel
theorem dX6_set_9 : decode cX6_set 9 = .ok (.if_icmp .ge 22, 3) := by decide +kernel
theorem dX6_set_12 : decode cX6_set 12 = .ok (.aload_n 0, 1) := by decide +kernel
theorem dX6_set_13 : decode cX6_set 13 = .ok (.getfield 9, 3) := by decide +kernel
theorem dX6_set_16 : decode cX6_set 16 = .ok (.iload_n 1, 1) := by decide +kernel
theorem dX6_set_17 : decode cX6_set 17 = .ok (.aload_n 0, 1) := by decide +kernel
theorem dX6_set_18 : decode cX6_set 18 = .ok (.getfield 15, 3) := by decide +kernel
theorem dX6_set_21 : decode cX6_set 21 = .ok (.ifCond .ne 8, 3) := by decide +kernel
theorem dX6_set_24 : decode cX6_set 24 = .ok (.iload_n 2, 1) := by decide +kernel
theorem dX6_set_25 : decode cX6_set 25 = .ok (.i2s, 1) := by decide +kernel
theorem dX6_set_26 : decode cX6_set 26 = .ok (.goto 4, 3) := by decide +kernel
theorem dX6_set_29 : decode cX6_set 29 = .ok (.iload_n 2, 1) := by decide +kernel
theorem dX6_set_30 : decode cX6_set 30 = .ok (.iastore, 1) := by decide +kernel
theorem dX6_set_31 : decode cX6_set 31 = .ok (.return_, 1) := by decide +kernel
theorem dX6_holds_0 : decode cX6_holds 0 = .ok (.iload_n 1, 1) := by decide +kernel
theorem dX6_holds_1 : decode cX6_holds 1 = .ok (.ifCond .lt 29, 3) := by decide +kernel
theorem dX6_holds_4 : decode cX6_holds 4 = .ok (.iload_n 2, 1) := by decide +kernel
theorem dX6_holds_5 : decode cX6_holds 5 = .ok (.ifCond .lt 25, 3) := by decide +kernel
theorem dX6_holds_8 : decode cX6_holds 8 = .ok (.iload_n 2, 1) := by decide +kernel
theorem dX6_holds_9 : decode cX6_holds 9 = .ok (.aload_n 0, 1) := by decide +kernel
theorem dX6_holds_10 : decode cX6_holds 10 = .ok (.getfield 19, 3) := by decide +kernel
theorem dX6_holds_13 : decode cX6_holds 13 = .ok (.if_icmp .gt 17, 3) := by decide +kernel
theorem dX6_holds_16 : decode cX6_holds 16 = .ok (.iload_n 1, 1) := by decide +kernel
theorem dX6_holds_17 : decode cX6_holds 17 = .ok (.aload_n 0, 1) := by decide +kernel
theorem dX6_holds_18 : decode cX6_holds 18 = .ok (.getfield 19, 3) := by decide +kernel
theorem dX6_holds_21 : decode cX6_holds 21 = .ok (.iload_n 2, 1) := by decide +kernel
theorem dX6_holds_22 : decode cX6_holds 22 = .ok (.isub, 1) := by decide +kernel
theorem dX6_holds_23 : decode cX6_holds 23 = .ok (.if_icmp .gt 7, 3) := by decide +kernel
theorem dX6_holds_26 : decode cX6_holds 26 = .ok (.iconst 1, 1) := by decide +kernel
theorem dX6_holds_27 : decode cX6_holds 27 = .ok (.goto 4, 3) := by decide +kernel
theorem dX6_holds_30 : decode cX6_holds 30 = .ok (.iconst 0, 1) := by decide +kernel
theorem dX6_holds_31 : decode cX6_holds 31 = .ok (.ireturn, 1) := by decide +kernel
theorem dX6_take_0 : decode cX6_take 0 = .ok (.aload_n 0, 1) := by decide +kernel
theorem dX6_take_1 : decode cX6_take 1 = .ok (.iload_n 1, 1) := by decide +kernel
theorem dX6_take_2 : decode cX6_take 2 = .ok (.iload 4, 2) := by decide +kernel
theorem dX6_take_4 : decode cX6_take 4 = .ok (.invokevirtual 31, 3) := by decide +kernel
theorem dX6_take_7 : decode cX6_take 7 = .ok (.ifCond .eq 28, 3) := by decide +kernel
theorem dX6_take_10 : decode cX6_take 10 = .ok (.aload_n 2, 1) := by decide +kernel
theorem dX6_take_11 : decode cX6_take 11 = .ok (.iload_n 3, 1) := by decide +kernel
theorem dX6_take_12 : decode cX6_take 12 = .ok (.iload 4, 2) := by decide +kernel
theorem dX6_take_14 : decode cX6_take 14 = .ok (.invokevirtual 31, 3) := by decide +kernel
theorem dX6_take_17 : decode cX6_take 17 = .ok (.ifCond .eq 18, 3) := by decide +kernel
theorem dX6_take_20 : decode cX6_take 20 = .ok (.aload_n 2, 1) := by decide +kernel
theorem dX6_take_21 : decode cX6_take 21 = .ok (.getfield 9, 3) := by decide +kernel
theorem dX6_take_24 : decode cX6_take 24 = .ok (.iload_n 3, 1) := by decide +kernel
theorem dX6_take_25 : decode cX6_take 25 = .ok (.aload_n 0, 1) := by decide +kernel
theorem dX6_take_26 : decode cX6_take 26 = .ok (.getfield 9, 3) := by decide +kernel
theorem dX6_take_29 : decode cX6_take 29 = .ok (.iload_n 1, 1) := by decide +kernel
theorem dX6_take_30 : decode cX6_take 30 = .ok (.iload 4, 2) := by decide +kernel
theorem dX6_take_32 : decode cX6_take 32 = .ok (.invokestatic 35, 3) := by decide +kernel
theorem dX6_take_35 : decode cX6_take 35 = .ok (.return_, 1) := by decide +kernel
theorem dX7_init_0 : decode cX7_init 0 = .ok (.aload_n 0, 1) := by decide +kernel
theorem dX7_init_1 : decode cX7_init 1 = .ok (.invokespecial 3, 3) := by decide +kernel
theorem dX7_init_4 : decode cX7_init 4 = .ok (.aload_n 0, 1) := by decide +kernel
theorem dX7_init_5 : decode cX7_init 5 = .ok (.sipush 200, 3) := by decide +kernel
theorem dX7_init_8 : decode cX7_init 8 = .ok (.newarray .int, 2) := by decide +kernel
theorem dX7_init_10 : decode cX7_init 10 = .ok (.putfield 9, 3) := by decide +kernel
theorem dX7_init_13 : decode cX7_init 13 = .ok (.aload_n 0, 1) := by decide +kernel
theorem dX7_init_14 : decode cX7_init 14 = .ok (.sipush 200, 3) := by decide +kernel
theorem dX7_init_17 : decode cX7_init 17 = .ok (.newarray .int, 2) := by decide +kernel
theorem dX7_init_19 : decode cX7_init 19 = .ok (.putfield 15, 3) := by decide +kernel
theorem dX7_init_22 : decode cX7_init 22 = .ok (.aload_n 0, 1) := by decide +kernel
theorem dX7_init_23 : decode cX7_init 23 = .ok (.aload_n 1, 1) := by decide +kernel
theorem dX7_init_24 : decode cX7_init 24 = .ok (.putfield 18, 3) := by decide +kernel
theorem dX7_init_27 : decode cX7_init 27 = .ok (.return_, 1) := by decide +kernel
theorem dX7_partOf_0 : decode cX7_partOf 0 = .ok (.iload_n 3, 1) := by decide +kernel
theorem dX7_partOf_1 : decode cX7_partOf 1 = .ok (.aload_n 1, 1) := by decide +kernel
theorem dX7_partOf_2 : decode cX7_partOf 2 = .ok (.iload_n 2, 1) := by decide +kernel
theorem dX7_partOf_3 : decode cX7_partOf 3 = .ok (.invokevirtual 22, 3) := by decide +kernel
theorem dX7_partOf_6 : decode cX7_partOf 6 = .ok (.if_icmp .lt 5, 3) := by decide +kernel
theorem dX7_partOf_9 : decode cX7_partOf 9 = .ok (.iconst (-1), 1) := by decide +kernel
theorem dX7_partOf_10 : decode cX7_partOf 10 = .ok (.ireturn, 1) := by decide +kernel
theorem dX7_partOf_11 : decode cX7_partOf 11 = .ok (.aload_n 1, 1) := by decide +kernel
theorem dX7_partOf_12 : decode cX7_partOf 12 = .ok (.iload_n 2, 1) := by decide +kernel
theorem dX7_partOf_13 : decode cX7_partOf 13 = .ok (.iload_n 3, 1) := by decide +kernel
theorem dX7_partOf_14 : decode cX7_partOf 14 = .ok (.invokevirtual 28, 3) := by decide +kernel
theorem dX7_partOf_17 : decode cX7_partOf 17 = .ok (.istore 4, 2) := by decide +kernel
theorem dX7_partOf_19 : decode cX7_partOf 19 = .ok (.iload 4, 2) := by decide +kernel
theorem dX7_partOf_21 : decode cX7_partOf 21 = .ok (.ifCond .lt 17, 3) := by decide +kernel
theorem dX7_partOf_24 : decode cX7_partOf 24 = .ok (.iload 4, 2) := by decide +kernel
theorem dX7_partOf_26 : decode cX7_partOf 26 = .ok (.aload_n 0, 1) := by decide +kernel
theorem dX7_partOf_27 : decode cX7_partOf 27 = .ok (.arraylength, 1) := by decide +kernel
theorem dX7_partOf_28 : decode cX7_partOf 28 = .ok (.if_icmp .ge 10, 3) := by decide +kernel
theorem dX7_partOf_31 : decode cX7_partOf 31 = .ok (.aload_n 0, 1) := by decide +kernel
theorem dX7_partOf_32 : decode cX7_partOf 32 = .ok (.iload 4, 2) := by decide +kernel
theorem dX7_partOf_34 : decode cX7_partOf 34 = .ok (.iaload, 1) := by decide +kernel
theorem dX7_partOf_35 : decode cX7_partOf 35 = .ok (.goto 4, 3) := by decide +kernel
theorem dX7_partOf_38 : decode cX7_partOf 38 = .ok (.iconst (-1), 1) := by decide +kernel
theorem dX7_partOf_39 : decode cX7_partOf 39 = .ok (.ireturn, 1) := by decide +kernel
theorem dX7_remade_0 : decode cX7_remade 0 = .ok (.aload_n 0, 1) := by decide +kernel
theorem dX7_remade_1 : decode cX7_remade 1 = .ok (.getfield 18, 3) := by decide +kernel
theorem dX7_remade_4 : decode cX7_remade 4 = .ok (.aload_n 2, 1) := by decide +kernel
theorem dX7_remade_5 : decode cX7_remade 5 = .ok (.iload_n 3, 1) := by decide +kernel
theorem dX7_remade_6 : decode cX7_remade 6 = .ok (.invokevirtual 32, 3) := by decide +kernel
theorem dX7_remade_9 : decode cX7_remade 9 = .ok (.aload_n 2, 1) := by decide +kernel
theorem dX7_remade_10 : decode cX7_remade 10 = .ok (.iload_n 3, 1) := by decide +kernel
theorem dX7_remade_11 : decode cX7_remade 11 = .ok (.invokevirtual 35, 3) := by decide +kernel
theorem dX7_remade_14 : decode cX7_remade 14 = .ok (.aload_n 1, 1) := by decide +kernel
theorem dX7_remade_15 : decode cX7_remade 15 = .ok (.aload_n 2, 1) := by decide +kernel
theorem dX7_remade_16 : decode cX7_remade 16 = .ok (.iload_n 3, 1) := by decide +kernel
theorem dX7_remade_17 : decode cX7_remade 17 = .ok (.iconst 0, 1) := by decide +kernel
theorem dX7_remade_18 : decode cX7_remade 18 = .ok (.invokestatic 39, 3) := by decide +kernel
theorem dX7_remade_21 : decode cX7_remade 21 = .ok (.aload_n 1, 1) := by decide +kernel
theorem dX7_remade_22 : decode cX7_remade 22 = .ok (.aload_n 2, 1) := by decide +kernel
theorem dX7_remade_23 : decode cX7_remade 23 = .ok (.iload_n 3, 1) := by decide +kernel
theorem dX7_remade_24 : decode cX7_remade 24 = .ok (.iconst 1, 1) := by decide +kernel
theorem dX7_remade_25 : decode cX7_remade 25 = .ok (.invokestatic 39, 3) := by decide +kernel
theorem dX7_remade_28 : decode cX7_remade 28 = .ok (.aload_n 1, 1) := by decide +kernel
theorem dX7_remade_29 : decode cX7_remade 29 = .ok (.aload_n 2, 1) := by decide +kernel
theorem dX7_remade_30 : decode cX7_remade 30 = .ok (.iload_n 3, 1) := by decide +kernel
theorem dX7_remade_31 : decode cX7_remade 31 = .ok (.iconst 2, 1) := by decide +kernel
theorem dX7_remade_32 : decode cX7_remade 32 = .ok (.invokestatic 39, 3) := by decide +kernel
theorem dX7_remade_35 : decode cX7_remade 35 = .ok (.invokevirtual 43, 3) := by decide +kernel
theorem dX7_remade_38 : decode cX7_remade 38 = .ok (.ireturn, 1) := by decide +kernel
theorem dX7_replaced_0 : decode cX7_replaced 0 = .ok (.aload_n 0, 1) := by decide +kernel
theorem dX7_replaced_1 : decode cX7_replaced 1 = .ok (.getfield 18, 3) := by decide +kernel
theorem dX7_replaced_4 : decode cX7_replaced 4 = .ok (.invokevirtual 49, 3) := by decide +kernel
theorem dX7_replaced_7 : decode cX7_replaced 7 = .ok (.aload_n 3, 1) := by decide +kernel
theorem dX7_replaced_8 : decode cX7_replaced 8 = .ok (.invokevirtual 52, 3) := by decide +kernel
theorem dX7_replaced_11 : decode cX7_replaced 11 = .ok (.iconst 1, 1) := by decide +kernel
theorem dX7_replaced_12 : decode cX7_replaced 12 = .ok (.isub, 1) := by decide +kernel
theorem dX7_replaced_13 : decode cX7_replaced 13 = .ok (.istore 4, 2) := by decide +kernel
theorem dX7_replaced_15 : decode cX7_replaced 15 = .ok (.iload 4, 2) := by decide +kernel
theorem dX7_replaced_17 : decode cX7_replaced 17 = .ok (.ifCond .lt 27, 3) := by decide +kernel
theorem dX7_replaced_20 : decode cX7_replaced 20 = .ok (.aload_n 0, 1) := by decide +kernel
theorem dX7_replaced_21 : decode cX7_replaced 21 = .ok (.getfield 15, 3) := by decide +kernel
theorem dX7_replaced_24 : decode cX7_replaced 24 = .ok (.iload 4, 2) := by decide +kernel
theorem dX7_replaced_26 : decode cX7_replaced 26 = .ok (.aload_n 0, 1) := by decide +kernel
theorem dX7_replaced_27 : decode cX7_replaced 27 = .ok (.aload_n 0, 1) := by decide +kernel
theorem dX7_replaced_28 : decode cX7_replaced 28 = .ok (.getfield 15, 3) := by decide +kernel
theorem dX7_replaced_31 : decode cX7_replaced 31 = .ok (.aload_n 3, 1) := by decide +kernel
theorem dX7_replaced_32 : decode cX7_replaced 32 = .ok (.iload 4, 2) := by decide +kernel
theorem dX7_replaced_34 : decode cX7_replaced 34 = .ok (.invokevirtual 56, 3) := by decide +kernel
theorem dX7_replaced_37 : decode cX7_replaced 37 = .ok (.iastore, 1) := by decide +kernel
theorem dX7_replaced_38 : decode cX7_replaced 38 = .ok (.iinc 4 (-1), 3) := by decide +kernel
theorem dX7_replaced_41 : decode cX7_replaced 41 = .ok (.goto (-26), 3) := by decide +kernel
theorem dX7_replaced_44 : decode cX7_replaced 44 = .ok (.aload_n 0, 1) := by decide +kernel
theorem dX7_replaced_45 : decode cX7_replaced 45 = .ok (.getfield 15, 3) := by decide +kernel
theorem dX7_replaced_48 : decode cX7_replaced 48 = .ok (.iconst 0, 1) := by decide +kernel
theorem dX7_replaced_49 : decode cX7_replaced 49 = .ok (.iaload, 1) := by decide +kernel
theorem dX7_replaced_50 : decode cX7_replaced 50 = .ok (.istore 4, 2) := by decide +kernel
theorem dX7_replaced_52 : decode cX7_replaced 52 = .ok (.aload_n 1, 1) := by decide +kernel
theorem dX7_replaced_53 : decode cX7_replaced 53 = .ok (.invokevirtual 52, 3) := by decide +kernel
theorem dX7_replaced_56 : decode cX7_replaced 56 = .ok (.iconst 1, 1) := by decide +kernel
theorem dX7_replaced_57 : decode cX7_replaced 57 = .ok (.isub, 1) := by decide +kernel
theorem dX7_replaced_58 : decode cX7_replaced 58 = .ok (.istore 5, 2) := by decide +kernel
theorem dX7_replaced_60 : decode cX7_replaced 60 = .ok (.iload 5, 2) := by decide +kernel
theorem dX7_replaced_62 : decode cX7_replaced 62 = .ok (.ifCond .lt 66, 3) := by decide +kernel
theorem dX7_replaced_65 : decode cX7_replaced 65 = .ok (.aload_n 1, 1) := by decide +kernel
theorem dX7_replaced_66 : decode cX7_replaced 66 = .ok (.iload 5, 2) := by decide +kernel
theorem dX7_replaced_68 : decode cX7_replaced 68 = .ok (.invokevirtual 32, 3) := by decide +kernel
theorem dX7_replaced_71 : decode cX7_replaced 71 = .ok (.iconst 1, 1) := by decide +kernel
theorem dX7_replaced_72 : decode cX7_replaced 72 = .ok (.if_icmp .ne 19, 3) := by decide +kernel
theorem dX7_replaced_75 : decode cX7_replaced 75 = .ok (.aload_n 1, 1) := by decide +kernel
theorem dX7_replaced_76 : decode cX7_replaced 76 = .ok (.iload 5, 2) := by decide +kernel
theorem dX7_replaced_78 : decode cX7_replaced 78 = .ok (.invokevirtual 35, 3) := by decide +kernel
theorem dX7_replaced_81 : decode cX7_replaced 81 = .ok (.iload_n 2, 1) := by decide +kernel
theorem dX7_replaced_82 : decode cX7_replaced 82 = .ok (.i2l, 1) := by decide +kernel
theorem dX7_replaced_83 : decode cX7_replaced 83 = .ok (.lcmp, 1) := by decide +kernel
theorem dX7_replaced_84 : decode cX7_replaced 84 = .ok (.ifCond .ne 7, 3) := by decide +kernel
theorem dX7_replaced_87 : decode cX7_replaced 87 = .ok (.iconst 1, 1) := by decide +kernel
theorem dX7_replaced_88 : decode cX7_replaced 88 = .ok (.goto 4, 3) := by decide +kernel
theorem dX7_replaced_91 : decode cX7_replaced 91 = .ok (.iconst 0, 1) := by decide +kernel
theorem dX7_replaced_92 : decode cX7_replaced 92 = .ok (.istore 6, 2) := by decide +kernel
theorem dX7_replaced_94 : decode cX7_replaced 94 = .ok (.aload_n 0, 1) := by decide +kernel
theorem dX7_replaced_95 : decode cX7_replaced 95 = .ok (.getfield 9, 3) := by decide +kernel
theorem dX7_replaced_98 : decode cX7_replaced 98 = .ok (.iload 5, 2) := by decide +kernel
theorem dX7_replaced_100 : decode cX7_replaced 100 = .ok (.iload 6, 2) := by decide +kernel
theorem dX7_replaced_102 : decode cX7_replaced 102 = .ok (.ifCond .eq 8, 3) := by decide +kernel
theorem dX7_replaced_105 : decode cX7_replaced 105 = .ok (.iload 4, 2) := by decide +kernel
theorem dX7_replaced_107 : decode cX7_replaced 107 = .ok (.goto 14, 3) := by decide +kernel
theorem dX7_replaced_110 : decode cX7_replaced 110 = .ok (.aload_n 0, 1) := by decide +kernel
theorem dX7_replaced_111 : decode cX7_replaced 111 = .ok (.aload_n 0, 1) := by decide +kernel
theorem dX7_replaced_112 : decode cX7_replaced 112 = .ok (.getfield 9, 3) := by decide +kernel
theorem dX7_replaced_115 : decode cX7_replaced 115 = .ok (.aload_n 1, 1) := by decide +kernel
theorem dX7_replaced_116 : decode cX7_replaced 116 = .ok (.iload 5, 2) := by decide +kernel
theorem dX7_replaced_118 : decode cX7_replaced 118 = .ok (.invokevirtual 56, 3) := by decide +kernel
theorem dX7_replaced_121 : decode cX7_replaced 121 = .ok (.iastore, 1) := by decide +kernel
theorem dX7_replaced_122 : decode cX7_replaced 122 = .ok (.iinc 5 (-1), 3) := by decide +kernel
theorem dX7_replaced_125 : decode cX7_replaced 125 = .ok (.goto (-65), 3) := by decide +kernel
theorem dX7_replaced_128 : decode cX7_replaced 128 = .ok (.aload_n 0, 1) := by decide +kernel
theorem dX7_replaced_129 : decode cX7_replaced 129 = .ok (.getfield 9, 3) := by decide +kernel
theorem dX7_replaced_132 : decode cX7_replaced 132 = .ok (.iconst 0, 1) := by decide +kernel
theorem dX7_replaced_133 : decode cX7_replaced 133 = .ok (.iaload, 1) := by decide +kernel
theorem dX7_replaced_134 : decode cX7_replaced 134 = .ok (.ireturn, 1) := by decide +kernel
theorem dX7_derived_0 : decode cX7_derived 0 = .ok (.aload_n 0, 1) := by decide +kernel
theorem dX7_derived_1 : decode cX7_derived 1 = .ok (.getfield 18, 3) := by decide +kernel
theorem dX7_derived_4 : decode cX7_derived 4 = .ok (.invokevirtual 49, 3) := by decide +kernel
theorem dX7_derived_7 : decode cX7_derived 7 = .ok (.aload_n 1, 1) := by decide +kernel
theorem dX7_derived_8 : decode cX7_derived 8 = .ok (.invokevirtual 52, 3) := by decide +kernel
theorem dX7_derived_11 : decode cX7_derived 11 = .ok (.iconst 1, 1) := by decide +kernel
theorem dX7_derived_12 : decode cX7_derived 12 = .ok (.isub, 1) := by decide +kernel
theorem dX7_derived_13 : decode cX7_derived 13 = .ok (.istore_n 3, 1) := by decide +kernel
theorem dX7_derived_14 : decode cX7_derived 14 = .ok (.iload_n 3, 1) := by decide +kernel
theorem dX7_derived_15 : decode cX7_derived 15 = .ok (.ifCond .lt 38, 3) := by decide +kernel
theorem dX7_derived_18 : decode cX7_derived 18 = .ok (.aload_n 0, 1) := by decide +kernel
theorem dX7_derived_19 : decode cX7_derived 19 = .ok (.getfield 9, 3) := by decide +kernel
theorem dX7_derived_22 : decode cX7_derived 22 = .ok (.iload_n 3, 1) := by decide +kernel
theorem dX7_derived_23 : decode cX7_derived 23 = .ok (.aload_n 0, 1) := by decide +kernel
theorem dX7_derived_24 : decode cX7_derived 24 = .ok (.aload_n 0, 1) := by decide +kernel
theorem dX7_derived_25 : decode cX7_derived 25 = .ok (.getfield 9, 3) := by decide +kernel
theorem dX7_derived_28 : decode cX7_derived 28 = .ok (.aload_n 1, 1) := by decide +kernel
theorem dX7_derived_29 : decode cX7_derived 29 = .ok (.iload_n 3, 1) := by decide +kernel
theorem dX7_derived_30 : decode cX7_derived 30 = .ok (.invokevirtual 56, 3) := by decide +kernel
theorem dX7_derived_33 : decode cX7_derived 33 = .ok (.iastore, 1) := by decide +kernel
theorem dX7_derived_34 : decode cX7_derived 34 = .ok (.aload_n 0, 1) := by decide +kernel
theorem dX7_derived_35 : decode cX7_derived 35 = .ok (.getfield 15, 3) := by decide +kernel
theorem dX7_derived_38 : decode cX7_derived 38 = .ok (.iload_n 3, 1) := by decide +kernel
theorem dX7_derived_39 : decode cX7_derived 39 = .ok (.aload_n 0, 1) := by decide +kernel
theorem dX7_derived_40 : decode cX7_derived 40 = .ok (.aload_n 1, 1) := by decide +kernel
theorem dX7_derived_41 : decode cX7_derived 41 = .ok (.iload_n 3, 1) := by decide +kernel
theorem dX7_derived_42 : decode cX7_derived 42 = .ok (.iload_n 2, 1) := by decide +kernel
theorem dX7_derived_43 : decode cX7_derived 43 = .ok (.invokevirtual 60, 3) := by decide +kernel
theorem dX7_derived_46 : decode cX7_derived 46 = .ok (.iastore, 1) := by decide +kernel
theorem dX7_derived_47 : decode cX7_derived 47 = .ok (.iinc 3 (-1), 3) := by decide +kernel
theorem dX7_derived_50 : decode cX7_derived 50 = .ok (.goto (-36), 3) := by decide +kernel
theorem dX7_derived_53 : decode cX7_derived 53 = .ok (.aload_n 0, 1) := by decide +kernel
theorem dX7_derived_54 : decode cX7_derived 54 = .ok (.getfield 15, 3) := by decide +kernel
theorem dX7_derived_57 : decode cX7_derived 57 = .ok (.iconst 0, 1) := by decide +kernel
theorem dX7_derived_58 : decode cX7_derived 58 = .ok (.iaload, 1) := by decide +kernel
theorem dX7_derived_59 : decode cX7_derived 59 = .ok (.ireturn, 1) := by decide +kernel
theorem dX7_derivedNode_0 : decode cX7_derivedNode 0 = .ok (.aload_n 0, 1) := by decide +kernel
theorem dX7_derivedNode_1 : decode cX7_derivedNode 1 = .ok (.getfield 15, 3) := by decide +kernel
theorem dX7_derivedNode_4 : decode cX7_derivedNode 4 = .ok (.aload_n 1, 1) := by decide +kernel
theorem dX7_derivedNode_5 : decode cX7_derivedNode 5 = .ok (.iload_n 2, 1) := by decide +kernel
theorem dX7_derivedNode_6 : decode cX7_derivedNode 6 = .ok (.iconst 0, 1) := by decide +kernel
theorem dX7_derivedNode_7 : decode cX7_derivedNode 7 = .ok (.invokestatic 39, 3) := by decide +kernel
theorem dX7_derivedNode_10 : decode cX7_derivedNode 10 = .ok (.istore 4, 2) := by decide +kernel
theorem dX7_derivedNode_12 : decode cX7_derivedNode 12 = .ok (.aload_n 0, 1) := by decide +kernel
theorem dX7_derivedNode_13 : decode cX7_derivedNode 13 = .ok (.getfield 15, 3) := by decide +kernel
theorem dX7_derivedNode_16 : decode cX7_derivedNode 16 = .ok (.aload_n 1, 1) := by decide +kernel
theorem dX7_derivedNode_17 : decode cX7_derivedNode 17 = .ok (.iload_n 2, 1) := by decide +kernel
theorem dX7_derivedNode_18 : decode cX7_derivedNode 18 = .ok (.iconst 1, 1) := by decide +kernel
theorem dX7_derivedNode_19 : decode cX7_derivedNode 19 = .ok (.invokestatic 39, 3) := by decide +kernel
theorem dX7_derivedNode_22 : decode cX7_derivedNode 22 = .ok (.istore 5, 2) := by decide +kernel
theorem dX7_derivedNode_24 : decode cX7_derivedNode 24 = .ok (.aload_n 1, 1) := by decide +kernel
theorem dX7_derivedNode_25 : decode cX7_derivedNode 25 = .ok (.iload_n 2, 1) := by decide +kernel
theorem dX7_derivedNode_26 : decode cX7_derivedNode 26 = .ok (.invokevirtual 32, 3) := by decide +kernel
theorem dX7_derivedNode_29 : decode cX7_derivedNode 29 = .ok (.tableswitch 206 1 7 #[43, 68, 80, 93, 122, 144, 177], 43) := by decide +kernel
theorem dX7_derivedNode_72 : decode cX7_derivedNode 72 = .ok (.aload_n 0, 1) := by decide +kernel
theorem dX7_derivedNode_73 : decode cX7_derivedNode 73 = .ok (.getfield 18, 3) := by decide +kernel
theorem dX7_derivedNode_76 : decode cX7_derivedNode 76 = .ok (.iconst 0, 1) := by decide +kernel
theorem dX7_derivedNode_77 : decode cX7_derivedNode 77 = .ok (.aload_n 1, 1) := by decide +kernel
theorem dX7_derivedNode_78 : decode cX7_derivedNode 78 = .ok (.iload_n 2, 1) := by decide +kernel
theorem dX7_derivedNode_79 : decode cX7_derivedNode 79 = .ok (.invokevirtual 35, 3) := by decide +kernel
theorem dX7_derivedNode_82 : decode cX7_derivedNode 82 = .ok (.iload_n 3, 1) := by decide +kernel
theorem dX7_derivedNode_83 : decode cX7_derivedNode 83 = .ok (.i2l, 1) := by decide +kernel
theorem dX7_derivedNode_84 : decode cX7_derivedNode 84 = .ok (.lcmp, 1) := by decide +kernel
theorem dX7_derivedNode_85 : decode cX7_derivedNode 85 = .ok (.ifCond .ne 7, 3) := by decide +kernel
theorem dX7_derivedNode_88 : decode cX7_derivedNode 88 = .ok (.lconst 1, 1) := by decide +kernel
theorem dX7_derivedNode_89 : decode cX7_derivedNode 89 = .ok (.goto 4, 3) := by decide +kernel
theorem dX7_derivedNode_92 : decode cX7_derivedNode 92 = .ok (.lconst 0, 1) := by decide +kernel
theorem dX7_derivedNode_93 : decode cX7_derivedNode 93 = .ok (.invokevirtual 64, 3) := by decide +kernel
theorem dX7_derivedNode_96 : decode cX7_derivedNode 96 = .ok (.ireturn, 1) := by decide +kernel
theorem dX7_derivedNode_97 : decode cX7_derivedNode 97 = .ok (.aload_n 0, 1) := by decide +kernel
theorem dX7_derivedNode_98 : decode cX7_derivedNode 98 = .ok (.getfield 18, 3) := by decide +kernel
theorem dX7_derivedNode_101 : decode cX7_derivedNode 101 = .ok (.iconst 2, 1) := by decide +kernel
theorem dX7_derivedNode_102 : decode cX7_derivedNode 102 = .ok (.iload 4, 2) := by decide +kernel
theorem dX7_derivedNode_104 : decode cX7_derivedNode 104 = .ok (.iconst (-1), 1) := by decide +kernel
theorem dX7_derivedNode_105 : decode cX7_derivedNode 105 = .ok (.invokevirtual 68, 3) := by decide +kernel
theorem dX7_derivedNode_108 : decode cX7_derivedNode 108 = .ok (.ireturn, 1) := by decide +kernel
theorem dX7_derivedNode_109 : decode cX7_derivedNode 109 = .ok (.aload_n 0, 1) := by decide +kernel
theorem dX7_derivedNode_110 : decode cX7_derivedNode 110 = .ok (.getfield 18, 3) := by decide +kernel
theorem dX7_derivedNode_113 : decode cX7_derivedNode 113 = .ok (.iconst 3, 1) := by decide +kernel
theorem dX7_derivedNode_114 : decode cX7_derivedNode 114 = .ok (.iload 4, 2) := by decide +kernel
theorem dX7_derivedNode_116 : decode cX7_derivedNode 116 = .ok (.iload 5, 2) := by decide +kernel
theorem dX7_derivedNode_118 : decode cX7_derivedNode 118 = .ok (.invokevirtual 68, 3) := by decide +kernel
theorem dX7_derivedNode_121 : decode cX7_derivedNode 121 = .ok (.ireturn, 1) := by decide +kernel
theorem dX7_derivedNode_122 : decode cX7_derivedNode 122 = .ok (.aload_n 0, 1) := by decide +kernel
theorem dX7_derivedNode_123 : decode cX7_derivedNode 123 = .ok (.aload_n 0, 1) := by decide +kernel
theorem dX7_derivedNode_124 : decode cX7_derivedNode 124 = .ok (.getfield 9, 3) := by decide +kernel
theorem dX7_derivedNode_127 : decode cX7_derivedNode 127 = .ok (.aload_n 1, 1) := by decide +kernel
theorem dX7_derivedNode_128 : decode cX7_derivedNode 128 = .ok (.iload_n 2, 1) := by decide +kernel
theorem dX7_derivedNode_129 : decode cX7_derivedNode 129 = .ok (.iconst 0, 1) := by decide +kernel
theorem dX7_derivedNode_130 : decode cX7_derivedNode 130 = .ok (.invokestatic 39, 3) := by decide +kernel
theorem dX7_derivedNode_133 : decode cX7_derivedNode 133 = .ok (.iload 4, 2) := by decide +kernel
theorem dX7_derivedNode_135 : decode cX7_derivedNode 135 = .ok (.aload_n 0, 1) := by decide +kernel
theorem dX7_derivedNode_136 : decode cX7_derivedNode 136 = .ok (.getfield 9, 3) := by decide +kernel
theorem dX7_derivedNode_139 : decode cX7_derivedNode 139 = .ok (.aload_n 1, 1) := by decide +kernel
theorem dX7_derivedNode_140 : decode cX7_derivedNode 140 = .ok (.iload_n 2, 1) := by decide +kernel
theorem dX7_derivedNode_141 : decode cX7_derivedNode 141 = .ok (.iconst 1, 1) := by decide +kernel
theorem dX7_derivedNode_142 : decode cX7_derivedNode 142 = .ok (.invokestatic 39, 3) := by decide +kernel
theorem dX7_derivedNode_145 : decode cX7_derivedNode 145 = .ok (.iload 5, 2) := by decide +kernel
theorem dX7_derivedNode_147 : decode cX7_derivedNode 147 = .ok (.invokevirtual 72, 3) := by decide +kernel
theorem dX7_derivedNode_150 : decode cX7_derivedNode 150 = .ok (.ireturn, 1) := by decide +kernel
theorem dX7_derivedNode_151 : decode cX7_derivedNode 151 = .ok (.aload_n 0, 1) := by decide +kernel
theorem dX7_derivedNode_152 : decode cX7_derivedNode 152 = .ok (.aload_n 0, 1) := by decide +kernel
theorem dX7_derivedNode_153 : decode cX7_derivedNode 153 = .ok (.getfield 9, 3) := by decide +kernel
theorem dX7_derivedNode_156 : decode cX7_derivedNode 156 = .ok (.aload_n 1, 1) := by decide +kernel
theorem dX7_derivedNode_157 : decode cX7_derivedNode 157 = .ok (.iload_n 2, 1) := by decide +kernel
theorem dX7_derivedNode_158 : decode cX7_derivedNode 158 = .ok (.iconst 0, 1) := by decide +kernel
theorem dX7_derivedNode_159 : decode cX7_derivedNode 159 = .ok (.invokestatic 39, 3) := by decide +kernel
theorem dX7_derivedNode_162 : decode cX7_derivedNode 162 = .ok (.iload 4, 2) := by decide +kernel
theorem dX7_derivedNode_164 : decode cX7_derivedNode 164 = .ok (.aload_n 1, 1) := by decide +kernel
theorem dX7_derivedNode_165 : decode cX7_derivedNode 165 = .ok (.iload_n 2, 1) := by decide +kernel
theorem dX7_derivedNode_166 : decode cX7_derivedNode 166 = .ok (.invokevirtual 35, 3) := by decide +kernel
theorem dX7_derivedNode_169 : decode cX7_derivedNode 169 = .ok (.invokevirtual 76, 3) := by decide +kernel
theorem dX7_derivedNode_172 : decode cX7_derivedNode 172 = .ok (.ireturn, 1) := by decide +kernel
theorem dX7_derivedNode_173 : decode cX7_derivedNode 173 = .ok (.aload_n 0, 1) := by decide +kernel
theorem dX7_derivedNode_174 : decode cX7_derivedNode 174 = .ok (.getfield 18, 3) := by decide +kernel
theorem dX7_derivedNode_177 : decode cX7_derivedNode 177 = .ok (.bipush 6, 2) := by decide +kernel
theorem dX7_derivedNode_179 : decode cX7_derivedNode 179 = .ok (.lconst 0, 1) := by decide +kernel
theorem dX7_derivedNode_180 : decode cX7_derivedNode 180 = .ok (.aload_n 0, 1) := by decide +kernel
theorem dX7_derivedNode_181 : decode cX7_derivedNode 181 = .ok (.getfield 9, 3) := by decide +kernel
theorem dX7_derivedNode_184 : decode cX7_derivedNode 184 = .ok (.aload_n 1, 1) := by decide +kernel
theorem dX7_derivedNode_185 : decode cX7_derivedNode 185 = .ok (.iload_n 2, 1) := by decide +kernel
theorem dX7_derivedNode_186 : decode cX7_derivedNode 186 = .ok (.iconst 0, 1) := by decide +kernel
theorem dX7_derivedNode_187 : decode cX7_derivedNode 187 = .ok (.invokestatic 39, 3) := by decide +kernel
theorem dX7_derivedNode_190 : decode cX7_derivedNode 190 = .ok (.iload 5, 2) := by decide +kernel
theorem dX7_derivedNode_192 : decode cX7_derivedNode 192 = .ok (.aload_n 0, 1) := by decide +kernel
theorem dX7_derivedNode_193 : decode cX7_derivedNode 193 = .ok (.getfield 15, 3) := by decide +kernel
theorem dX7_derivedNode_196 : decode cX7_derivedNode 196 = .ok (.aload_n 1, 1) := by decide +kernel
theorem dX7_derivedNode_197 : decode cX7_derivedNode 197 = .ok (.iload_n 2, 1) := by decide +kernel
theorem dX7_derivedNode_198 : decode cX7_derivedNode 198 = .ok (.iconst 2, 1) := by decide +kernel
theorem dX7_derivedNode_199 : decode cX7_derivedNode 199 = .ok (.invokestatic 39, 3) := by decide +kernel
theorem dX7_derivedNode_202 : decode cX7_derivedNode 202 = .ok (.invokevirtual 43, 3) := by decide +kernel
theorem dX7_derivedNode_205 : decode cX7_derivedNode 205 = .ok (.ireturn, 1) := by decide +kernel
theorem dX7_derivedNode_206 : decode cX7_derivedNode 206 = .ok (.aload_n 0, 1) := by decide +kernel
theorem dX7_derivedNode_207 : decode cX7_derivedNode 207 = .ok (.aload_n 0, 1) := by decide +kernel
theorem dX7_derivedNode_208 : decode cX7_derivedNode 208 = .ok (.getfield 9, 3) := by decide +kernel
theorem dX7_derivedNode_211 : decode cX7_derivedNode 211 = .ok (.aload_n 1, 1) := by decide +kernel
theorem dX7_derivedNode_212 : decode cX7_derivedNode 212 = .ok (.iload_n 2, 1) := by decide +kernel
theorem dX7_derivedNode_213 : decode cX7_derivedNode 213 = .ok (.iconst 0, 1) := by decide +kernel
theorem dX7_derivedNode_214 : decode cX7_derivedNode 214 = .ok (.invokestatic 39, 3) := by decide +kernel
theorem dX7_derivedNode_217 : decode cX7_derivedNode 217 = .ok (.iload 4, 2) := by decide +kernel
theorem dX7_derivedNode_219 : decode cX7_derivedNode 219 = .ok (.aload_n 0, 1) := by decide +kernel
theorem dX7_derivedNode_220 : decode cX7_derivedNode 220 = .ok (.getfield 9, 3) := by decide +kernel
theorem dX7_derivedNode_223 : decode cX7_derivedNode 223 = .ok (.aload_n 1, 1) := by decide +kernel
theorem dX7_derivedNode_224 : decode cX7_derivedNode 224 = .ok (.iload_n 2, 1) := by decide +kernel
theorem dX7_derivedNode_225 : decode cX7_derivedNode 225 = .ok (.iconst 0, 1) := by decide +kernel
theorem dX7_derivedNode_226 : decode cX7_derivedNode 226 = .ok (.invokestatic 39, 3) := by decide +kernel
theorem dX7_derivedNode_229 : decode cX7_derivedNode 229 = .ok (.iload 4, 2) := by decide +kernel
theorem dX7_derivedNode_231 : decode cX7_derivedNode 231 = .ok (.invokevirtual 72, 3) := by decide +kernel
theorem dX7_derivedNode_234 : decode cX7_derivedNode 234 = .ok (.ireturn, 1) := by decide +kernel
theorem dX7_derivedNode_235 : decode cX7_derivedNode 235 = .ok (.aload_n 0, 1) := by decide +kernel
theorem dX7_derivedNode_236 : decode cX7_derivedNode 236 = .ok (.getfield 18, 3) := by decide +kernel
theorem dX7_derivedNode_239 : decode cX7_derivedNode 239 = .ok (.iconst 0, 1) := by decide +kernel
theorem dX7_derivedNode_240 : decode cX7_derivedNode 240 = .ok (.lconst 0, 1) := by decide +kernel
theorem dX7_derivedNode_241 : decode cX7_derivedNode 241 = .ok (.invokevirtual 64, 3) := by decide +kernel
theorem dX7_derivedNode_244 : decode cX7_derivedNode 244 = .ok (.ireturn, 1) := by decide +kernel
theorem dX7_derivedProduct_0 : decode cX7_derivedProduct 0 = .ok (.aload_n 0, 1) := by decide +kernel
theorem dX7_derivedProduct_1 : decode cX7_derivedProduct 1 = .ok (.getfield 18, 3) := by decide +kernel
theorem dX7_derivedProduct_4 : decode cX7_derivedProduct 4 = .ok (.iconst 3, 1) := by decide +kernel
theorem dX7_derivedProduct_5 : decode cX7_derivedProduct 5 = .ok (.aload_n 0, 1) := by decide +kernel
theorem dX7_derivedProduct_6 : decode cX7_derivedProduct 6 = .ok (.getfield 18, 3) := by decide +kernel
theorem dX7_derivedProduct_9 : decode cX7_derivedProduct 9 = .ok (.iconst 4, 1) := by decide +kernel
theorem dX7_derivedProduct_10 : decode cX7_derivedProduct 10 = .ok (.iload_n 2, 1) := by decide +kernel
theorem dX7_derivedProduct_11 : decode cX7_derivedProduct 11 = .ok (.iload_n 3, 1) := by decide +kernel
theorem dX7_derivedProduct_12 : decode cX7_derivedProduct 12 = .ok (.invokevirtual 68, 3) := by decide +kernel
theorem dX7_derivedProduct_15 : decode cX7_derivedProduct 15 = .ok (.aload_n 0, 1) := by decide +kernel
theorem dX7_derivedProduct_16 : decode cX7_derivedProduct 16 = .ok (.getfield 18, 3) := by decide +kernel
theorem dX7_derivedProduct_19 : decode cX7_derivedProduct 19 = .ok (.iconst 4, 1) := by decide +kernel
theorem dX7_derivedProduct_20 : decode cX7_derivedProduct 20 = .ok (.iload_n 1, 1) := by decide +kernel
theorem dX7_derivedProduct_21 : decode cX7_derivedProduct 21 = .ok (.iload 4, 2) := by decide +kernel
theorem dX7_derivedProduct_23 : decode cX7_derivedProduct 23 = .ok (.invokevirtual 68, 3) := by decide +kernel
theorem dX7_derivedProduct_26 : decode cX7_derivedProduct 26 = .ok (.invokevirtual 68, 3) := by decide +kernel
theorem dX7_derivedProduct_29 : decode cX7_derivedProduct 29 = .ok (.ireturn, 1) := by decide +kernel
theorem dX7_derivedPower_0 : decode cX7_derivedPower 0 = .ok (.lload_n 3, 1) := by decide +kernel
theorem dX7_derivedPower_1 : decode cX7_derivedPower 1 = .ok (.lconst 0, 1) := by decide +kernel
theorem dX7_derivedPower_2 : decode cX7_derivedPower 2 = .ok (.lcmp, 1) := by decide +kernel
theorem dX7_derivedPower_3 : decode cX7_derivedPower 3 = .ok (.ifCond .ne 13, 3) := by decide +kernel
theorem dX7_derivedPower_6 : decode cX7_derivedPower 6 = .ok (.aload_n 0, 1) := by decide +kernel
theorem dX7_derivedPower_7 : decode cX7_derivedPower 7 = .ok (.getfield 18, 3) := by decide +kernel
theorem dX7_derivedPower_10 : decode cX7_derivedPower 10 = .ok (.iconst 0, 1) := by decide +kernel
theorem dX7_derivedPower_11 : decode cX7_derivedPower 11 = .ok (.lconst 0, 1) := by decide +kernel
theorem dX7_derivedPower_12 : decode cX7_derivedPower 12 = .ok (.invokevirtual 64, 3) := by decide +kernel
theorem dX7_derivedPower_15 : decode cX7_derivedPower 15 = .ok (.ireturn, 1) := by decide +kernel
theorem dX7_derivedPower_16 : decode cX7_derivedPower 16 = .ok (.aload_n 0, 1) := by decide +kernel
theorem dX7_derivedPower_17 : decode cX7_derivedPower 17 = .ok (.getfield 18, 3) := by decide +kernel
theorem dX7_derivedPower_20 : decode cX7_derivedPower 20 = .ok (.iconst 5, 1) := by decide +kernel
theorem dX7_derivedPower_21 : decode cX7_derivedPower 21 = .ok (.lload_n 3, 1) := by decide +kernel
theorem dX7_derivedPower_22 : decode cX7_derivedPower 22 = .ok (.lconst 1, 1) := by decide +kernel
theorem dX7_derivedPower_23 : decode cX7_derivedPower 23 = .ok (.lsub, 1) := by decide +kernel
theorem dX7_derivedPower_24 : decode cX7_derivedPower 24 = .ok (.iload_n 1, 1) := by decide +kernel
theorem dX7_derivedPower_25 : decode cX7_derivedPower 25 = .ok (.iconst (-1), 1) := by decide +kernel
theorem dX7_derivedPower_26 : decode cX7_derivedPower 26 = .ok (.iconst (-1), 1) := by decide +kernel
theorem dX7_derivedPower_27 : decode cX7_derivedPower 27 = .ok (.invokevirtual 43, 3) := by decide +kernel
theorem dX7_derivedPower_30 : decode cX7_derivedPower 30 = .ok (.istore 5, 2) := by decide +kernel
theorem dX7_derivedPower_32 : decode cX7_derivedPower 32 = .ok (.aload_n 0, 1) := by decide +kernel
theorem dX7_derivedPower_33 : decode cX7_derivedPower 33 = .ok (.getfield 18, 3) := by decide +kernel
theorem dX7_derivedPower_36 : decode cX7_derivedPower 36 = .ok (.iconst 4, 1) := by decide +kernel
