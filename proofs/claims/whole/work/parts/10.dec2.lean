theorem dX7_derivedPower_37 : decode cX7_derivedPower 37 = .ok (.aload_n 0, 1) := by decide +kernel
theorem dX7_derivedPower_38 : decode cX7_derivedPower 38 = .ok (.getfield 18, 3) := by decide +kernel
theorem dX7_derivedPower_41 : decode cX7_derivedPower 41 = .ok (.iconst 4, 1) := by decide +kernel
theorem dX7_derivedPower_42 : decode cX7_derivedPower 42 = .ok (.aload_n 0, 1) := by decide +kernel
theorem dX7_derivedPower_43 : decode cX7_derivedPower 43 = .ok (.getfield 18, 3) := by decide +kernel
theorem dX7_derivedPower_46 : decode cX7_derivedPower 46 = .ok (.iconst 0, 1) := by decide +kernel
theorem dX7_derivedPower_47 : decode cX7_derivedPower 47 = .ok (.lload_n 3, 1) := by decide +kernel
theorem dX7_derivedPower_48 : decode cX7_derivedPower 48 = .ok (.invokevirtual 64, 3) := by decide +kernel
theorem dX7_derivedPower_51 : decode cX7_derivedPower 51 = .ok (.iload 5, 2) := by decide +kernel
theorem dX7_derivedPower_53 : decode cX7_derivedPower 53 = .ok (.invokevirtual 68, 3) := by decide +kernel
theorem dX7_derivedPower_56 : decode cX7_derivedPower 56 = .ok (.iload_n 2, 1) := by decide +kernel
theorem dX7_derivedPower_57 : decode cX7_derivedPower 57 = .ok (.invokevirtual 68, 3) := by decide +kernel
theorem dX7_derivedPower_60 : decode cX7_derivedPower 60 = .ok (.ireturn, 1) := by decide +kernel
theorem dX7_folded_0 : decode cX7_folded 0 = .ok (.aload_n 0, 1) := by decide +kernel
theorem dX7_folded_1 : decode cX7_folded 1 = .ok (.getfield 18, 3) := by decide +kernel
theorem dX7_folded_4 : decode cX7_folded 4 = .ok (.invokevirtual 49, 3) := by decide +kernel
theorem dX7_folded_7 : decode cX7_folded 7 = .ok (.aload_n 1, 1) := by decide +kernel
theorem dX7_folded_8 : decode cX7_folded 8 = .ok (.invokevirtual 52, 3) := by decide +kernel
theorem dX7_folded_11 : decode cX7_folded 11 = .ok (.iconst 1, 1) := by decide +kernel
theorem dX7_folded_12 : decode cX7_folded 12 = .ok (.isub, 1) := by decide +kernel
theorem dX7_folded_13 : decode cX7_folded 13 = .ok (.istore_n 2, 1) := by decide +kernel
theorem dX7_folded_14 : decode cX7_folded 14 = .ok (.iload_n 2, 1) := by decide +kernel
theorem dX7_folded_15 : decode cX7_folded 15 = .ok (.ifCond .lt 21, 3) := by decide +kernel
theorem dX7_folded_18 : decode cX7_folded 18 = .ok (.aload_n 0, 1) := by decide +kernel
theorem dX7_folded_19 : decode cX7_folded 19 = .ok (.getfield 15, 3) := by decide +kernel
theorem dX7_folded_22 : decode cX7_folded 22 = .ok (.iload_n 2, 1) := by decide +kernel
theorem dX7_folded_23 : decode cX7_folded 23 = .ok (.aload_n 0, 1) := by decide +kernel
theorem dX7_folded_24 : decode cX7_folded 24 = .ok (.aload_n 1, 1) := by decide +kernel
theorem dX7_folded_25 : decode cX7_folded 25 = .ok (.iload_n 2, 1) := by decide +kernel
theorem dX7_folded_26 : decode cX7_folded 26 = .ok (.invokevirtual 80, 3) := by decide +kernel
theorem dX7_folded_29 : decode cX7_folded 29 = .ok (.iastore, 1) := by decide +kernel
theorem dX7_folded_30 : decode cX7_folded 30 = .ok (.iinc 2 (-1), 3) := by decide +kernel
theorem dX7_folded_33 : decode cX7_folded 33 = .ok (.goto (-19), 3) := by decide +kernel
theorem dX7_folded_36 : decode cX7_folded 36 = .ok (.aload_n 0, 1) := by decide +kernel
theorem dX7_folded_37 : decode cX7_folded 37 = .ok (.getfield 15, 3) := by decide +kernel
theorem dX7_folded_40 : decode cX7_folded 40 = .ok (.iconst 0, 1) := by decide +kernel
theorem dX7_folded_41 : decode cX7_folded 41 = .ok (.iaload, 1) := by decide +kernel
theorem dX7_folded_42 : decode cX7_folded 42 = .ok (.ireturn, 1) := by decide +kernel
theorem dX7_foldedNode_0 : decode cX7_foldedNode 0 = .ok (.aload_n 0, 1) := by decide +kernel
theorem dX7_foldedNode_1 : decode cX7_foldedNode 1 = .ok (.getfield 15, 3) := by decide +kernel
theorem dX7_foldedNode_4 : decode cX7_foldedNode 4 = .ok (.aload_n 1, 1) := by decide +kernel
theorem dX7_foldedNode_5 : decode cX7_foldedNode 5 = .ok (.iload_n 2, 1) := by decide +kernel
theorem dX7_foldedNode_6 : decode cX7_foldedNode 6 = .ok (.iconst 0, 1) := by decide +kernel
theorem dX7_foldedNode_7 : decode cX7_foldedNode 7 = .ok (.invokestatic 39, 3) := by decide +kernel
theorem dX7_foldedNode_10 : decode cX7_foldedNode 10 = .ok (.istore_n 3, 1) := by decide +kernel
theorem dX7_foldedNode_11 : decode cX7_foldedNode 11 = .ok (.aload_n 0, 1) := by decide +kernel
theorem dX7_foldedNode_12 : decode cX7_foldedNode 12 = .ok (.getfield 15, 3) := by decide +kernel
theorem dX7_foldedNode_15 : decode cX7_foldedNode 15 = .ok (.aload_n 1, 1) := by decide +kernel
theorem dX7_foldedNode_16 : decode cX7_foldedNode 16 = .ok (.iload_n 2, 1) := by decide +kernel
theorem dX7_foldedNode_17 : decode cX7_foldedNode 17 = .ok (.iconst 1, 1) := by decide +kernel
theorem dX7_foldedNode_18 : decode cX7_foldedNode 18 = .ok (.invokestatic 39, 3) := by decide +kernel
theorem dX7_foldedNode_21 : decode cX7_foldedNode 21 = .ok (.istore 4, 2) := by decide +kernel
theorem dX7_foldedNode_23 : decode cX7_foldedNode 23 = .ok (.aload_n 1, 1) := by decide +kernel
theorem dX7_foldedNode_24 : decode cX7_foldedNode 24 = .ok (.iload_n 2, 1) := by decide +kernel
theorem dX7_foldedNode_25 : decode cX7_foldedNode 25 = .ok (.invokevirtual 32, 3) := by decide +kernel
theorem dX7_foldedNode_28 : decode cX7_foldedNode 28 = .ok (.tableswitch 97 2 7 #[40, 46, 54, 62, 73, 91], 40) := by decide +kernel
theorem dX7_foldedNode_68 : decode cX7_foldedNode 68 = .ok (.aload_n 0, 1) := by decide +kernel
theorem dX7_foldedNode_69 : decode cX7_foldedNode 69 = .ok (.iload_n 3, 1) := by decide +kernel
theorem dX7_foldedNode_70 : decode cX7_foldedNode 70 = .ok (.invokevirtual 84, 3) := by decide +kernel
theorem dX7_foldedNode_73 : decode cX7_foldedNode 73 = .ok (.ireturn, 1) := by decide +kernel
theorem dX7_foldedNode_74 : decode cX7_foldedNode 74 = .ok (.aload_n 0, 1) := by decide +kernel
theorem dX7_foldedNode_75 : decode cX7_foldedNode 75 = .ok (.iload_n 3, 1) := by decide +kernel
theorem dX7_foldedNode_76 : decode cX7_foldedNode 76 = .ok (.iload 4, 2) := by decide +kernel
theorem dX7_foldedNode_78 : decode cX7_foldedNode 78 = .ok (.invokevirtual 87, 3) := by decide +kernel
theorem dX7_foldedNode_81 : decode cX7_foldedNode 81 = .ok (.ireturn, 1) := by decide +kernel
theorem dX7_foldedNode_82 : decode cX7_foldedNode 82 = .ok (.aload_n 0, 1) := by decide +kernel
theorem dX7_foldedNode_83 : decode cX7_foldedNode 83 = .ok (.iload_n 3, 1) := by decide +kernel
theorem dX7_foldedNode_84 : decode cX7_foldedNode 84 = .ok (.iload 4, 2) := by decide +kernel
theorem dX7_foldedNode_86 : decode cX7_foldedNode 86 = .ok (.invokevirtual 90, 3) := by decide +kernel
theorem dX7_foldedNode_89 : decode cX7_foldedNode 89 = .ok (.ireturn, 1) := by decide +kernel
theorem dX7_foldedNode_90 : decode cX7_foldedNode 90 = .ok (.aload_n 0, 1) := by decide +kernel
theorem dX7_foldedNode_91 : decode cX7_foldedNode 91 = .ok (.iload_n 3, 1) := by decide +kernel
theorem dX7_foldedNode_92 : decode cX7_foldedNode 92 = .ok (.aload_n 1, 1) := by decide +kernel
theorem dX7_foldedNode_93 : decode cX7_foldedNode 93 = .ok (.iload_n 2, 1) := by decide +kernel
theorem dX7_foldedNode_94 : decode cX7_foldedNode 94 = .ok (.invokevirtual 35, 3) := by decide +kernel
theorem dX7_foldedNode_97 : decode cX7_foldedNode 97 = .ok (.invokevirtual 93, 3) := by decide +kernel
theorem dX7_foldedNode_100 : decode cX7_foldedNode 100 = .ok (.ireturn, 1) := by decide +kernel
theorem dX7_foldedNode_101 : decode cX7_foldedNode 101 = .ok (.aload_n 0, 1) := by decide +kernel
theorem dX7_foldedNode_102 : decode cX7_foldedNode 102 = .ok (.iload_n 3, 1) := by decide +kernel
theorem dX7_foldedNode_103 : decode cX7_foldedNode 103 = .ok (.iload 4, 2) := by decide +kernel
theorem dX7_foldedNode_105 : decode cX7_foldedNode 105 = .ok (.aload_n 0, 1) := by decide +kernel
theorem dX7_foldedNode_106 : decode cX7_foldedNode 106 = .ok (.getfield 15, 3) := by decide +kernel
theorem dX7_foldedNode_109 : decode cX7_foldedNode 109 = .ok (.aload_n 1, 1) := by decide +kernel
theorem dX7_foldedNode_110 : decode cX7_foldedNode 110 = .ok (.iload_n 2, 1) := by decide +kernel
theorem dX7_foldedNode_111 : decode cX7_foldedNode 111 = .ok (.iconst 2, 1) := by decide +kernel
theorem dX7_foldedNode_112 : decode cX7_foldedNode 112 = .ok (.invokestatic 39, 3) := by decide +kernel
theorem dX7_foldedNode_115 : decode cX7_foldedNode 115 = .ok (.invokevirtual 96, 3) := by decide +kernel
theorem dX7_foldedNode_118 : decode cX7_foldedNode 118 = .ok (.ireturn, 1) := by decide +kernel
theorem dX7_foldedNode_119 : decode cX7_foldedNode 119 = .ok (.aload_n 0, 1) := by decide +kernel
theorem dX7_foldedNode_120 : decode cX7_foldedNode 120 = .ok (.iload_n 3, 1) := by decide +kernel
theorem dX7_foldedNode_121 : decode cX7_foldedNode 121 = .ok (.invokevirtual 99, 3) := by decide +kernel
theorem dX7_foldedNode_124 : decode cX7_foldedNode 124 = .ok (.ireturn, 1) := by decide +kernel
theorem dX7_foldedNode_125 : decode cX7_foldedNode 125 = .ok (.aload_n 0, 1) := by decide +kernel
theorem dX7_foldedNode_126 : decode cX7_foldedNode 126 = .ok (.getfield 18, 3) := by decide +kernel
theorem dX7_foldedNode_129 : decode cX7_foldedNode 129 = .ok (.aload_n 1, 1) := by decide +kernel
theorem dX7_foldedNode_130 : decode cX7_foldedNode 130 = .ok (.iload_n 2, 1) := by decide +kernel
theorem dX7_foldedNode_131 : decode cX7_foldedNode 131 = .ok (.invokevirtual 32, 3) := by decide +kernel
theorem dX7_foldedNode_134 : decode cX7_foldedNode 134 = .ok (.aload_n 1, 1) := by decide +kernel
theorem dX7_foldedNode_135 : decode cX7_foldedNode 135 = .ok (.iload_n 2, 1) := by decide +kernel
theorem dX7_foldedNode_136 : decode cX7_foldedNode 136 = .ok (.invokevirtual 35, 3) := by decide +kernel
theorem dX7_foldedNode_139 : decode cX7_foldedNode 139 = .ok (.invokevirtual 64, 3) := by decide +kernel
theorem dX7_foldedNode_142 : decode cX7_foldedNode 142 = .ok (.ireturn, 1) := by decide +kernel
theorem dX7_foldedNegated_0 : decode cX7_foldedNegated 0 = .ok (.aload_n 0, 1) := by decide +kernel
theorem dX7_foldedNegated_1 : decode cX7_foldedNegated 1 = .ok (.getfield 18, 3) := by decide +kernel
theorem dX7_foldedNegated_4 : decode cX7_foldedNegated 4 = .ok (.iload_n 1, 1) := by decide +kernel
theorem dX7_foldedNegated_5 : decode cX7_foldedNegated 5 = .ok (.invokevirtual 102, 3) := by decide +kernel
theorem dX7_foldedNegated_8 : decode cX7_foldedNegated 8 = .ok (.ifCond .eq 21, 3) := by decide +kernel
theorem dX7_foldedNegated_11 : decode cX7_foldedNegated 11 = .ok (.aload_n 0, 1) := by decide +kernel
theorem dX7_foldedNegated_12 : decode cX7_foldedNegated 12 = .ok (.getfield 18, 3) := by decide +kernel
theorem dX7_foldedNegated_15 : decode cX7_foldedNegated 15 = .ok (.iconst 0, 1) := by decide +kernel
theorem dX7_foldedNegated_16 : decode cX7_foldedNegated 16 = .ok (.aload_n 0, 1) := by decide +kernel
theorem dX7_foldedNegated_17 : decode cX7_foldedNegated 17 = .ok (.getfield 18, 3) := by decide +kernel
theorem dX7_foldedNegated_20 : decode cX7_foldedNegated 20 = .ok (.iload_n 1, 1) := by decide +kernel
theorem dX7_foldedNegated_21 : decode cX7_foldedNegated 21 = .ok (.invokevirtual 106, 3) := by decide +kernel
theorem dX7_foldedNegated_24 : decode cX7_foldedNegated 24 = .ok (.lneg, 1) := by decide +kernel
theorem dX7_foldedNegated_25 : decode cX7_foldedNegated 25 = .ok (.invokevirtual 64, 3) := by decide +kernel
theorem dX7_foldedNegated_28 : decode cX7_foldedNegated 28 = .ok (.ireturn, 1) := by decide +kernel
theorem dX7_foldedNegated_29 : decode cX7_foldedNegated 29 = .ok (.aload_n 0, 1) := by decide +kernel
theorem dX7_foldedNegated_30 : decode cX7_foldedNegated 30 = .ok (.getfield 18, 3) := by decide +kernel
theorem dX7_foldedNegated_33 : decode cX7_foldedNegated 33 = .ok (.iload_n 1, 1) := by decide +kernel
theorem dX7_foldedNegated_34 : decode cX7_foldedNegated 34 = .ok (.invokevirtual 107, 3) := by decide +kernel
theorem dX7_foldedNegated_37 : decode cX7_foldedNegated 37 = .ok (.iconst 2, 1) := by decide +kernel
theorem dX7_foldedNegated_38 : decode cX7_foldedNegated 38 = .ok (.if_icmp .ne 14, 3) := by decide +kernel
theorem dX7_foldedNegated_41 : decode cX7_foldedNegated 41 = .ok (.aload_n 0, 1) := by decide +kernel
theorem dX7_foldedNegated_42 : decode cX7_foldedNegated 42 = .ok (.getfield 18, 3) := by decide +kernel
theorem dX7_foldedNegated_45 : decode cX7_foldedNegated 45 = .ok (.iload_n 1, 1) := by decide +kernel
theorem dX7_foldedNegated_46 : decode cX7_foldedNegated 46 = .ok (.invokevirtual 108, 3) := by decide +kernel
theorem dX7_foldedNegated_49 : decode cX7_foldedNegated 49 = .ok (.goto 13, 3) := by decide +kernel
theorem dX7_foldedNegated_52 : decode cX7_foldedNegated 52 = .ok (.aload_n 0, 1) := by decide +kernel
theorem dX7_foldedNegated_53 : decode cX7_foldedNegated 53 = .ok (.getfield 18, 3) := by decide +kernel
theorem dX7_foldedNegated_56 : decode cX7_foldedNegated 56 = .ok (.iconst 2, 1) := by decide +kernel
theorem dX7_foldedNegated_57 : decode cX7_foldedNegated 57 = .ok (.iload_n 1, 1) := by decide +kernel
theorem dX7_foldedNegated_58 : decode cX7_foldedNegated 58 = .ok (.iconst (-1), 1) := by decide +kernel
theorem dX7_foldedNegated_59 : decode cX7_foldedNegated 59 = .ok (.invokevirtual 68, 3) := by decide +kernel
theorem dX7_foldedNegated_62 : decode cX7_foldedNegated 62 = .ok (.ireturn, 1) := by decide +kernel
theorem dX7_foldedSum_0 : decode cX7_foldedSum 0 = .ok (.aload_n 0, 1) := by decide +kernel
theorem dX7_foldedSum_1 : decode cX7_foldedSum 1 = .ok (.getfield 18, 3) := by decide +kernel
theorem dX7_foldedSum_4 : decode cX7_foldedSum 4 = .ok (.iload_n 1, 1) := by decide +kernel
theorem dX7_foldedSum_5 : decode cX7_foldedSum 5 = .ok (.invokevirtual 102, 3) := by decide +kernel
theorem dX7_foldedSum_8 : decode cX7_foldedSum 8 = .ok (.ifCond .eq 40, 3) := by decide +kernel
theorem dX7_foldedSum_11 : decode cX7_foldedSum 11 = .ok (.aload_n 0, 1) := by decide +kernel
theorem dX7_foldedSum_12 : decode cX7_foldedSum 12 = .ok (.getfield 18, 3) := by decide +kernel
theorem dX7_foldedSum_15 : decode cX7_foldedSum 15 = .ok (.iload_n 2, 1) := by decide +kernel
theorem dX7_foldedSum_16 : decode cX7_foldedSum 16 = .ok (.invokevirtual 102, 3) := by decide +kernel
theorem dX7_foldedSum_19 : decode cX7_foldedSum 19 = .ok (.ifCond .eq 29, 3) := by decide +kernel
theorem dX7_foldedSum_22 : decode cX7_foldedSum 22 = .ok (.aload_n 0, 1) := by decide +kernel
theorem dX7_foldedSum_23 : decode cX7_foldedSum 23 = .ok (.getfield 18, 3) := by decide +kernel
theorem dX7_foldedSum_26 : decode cX7_foldedSum 26 = .ok (.iconst 0, 1) := by decide +kernel
theorem dX7_foldedSum_27 : decode cX7_foldedSum 27 = .ok (.aload_n 0, 1) := by decide +kernel
theorem dX7_foldedSum_28 : decode cX7_foldedSum 28 = .ok (.getfield 18, 3) := by decide +kernel
theorem dX7_foldedSum_31 : decode cX7_foldedSum 31 = .ok (.iload_n 1, 1) := by decide +kernel
theorem dX7_foldedSum_32 : decode cX7_foldedSum 32 = .ok (.invokevirtual 106, 3) := by decide +kernel
theorem dX7_foldedSum_35 : decode cX7_foldedSum 35 = .ok (.aload_n 0, 1) := by decide +kernel
theorem dX7_foldedSum_36 : decode cX7_foldedSum 36 = .ok (.getfield 18, 3) := by decide +kernel
theorem dX7_foldedSum_39 : decode cX7_foldedSum 39 = .ok (.iload_n 2, 1) := by decide +kernel
theorem dX7_foldedSum_40 : decode cX7_foldedSum 40 = .ok (.invokevirtual 106, 3) := by decide +kernel
theorem dX7_foldedSum_43 : decode cX7_foldedSum 43 = .ok (.ladd, 1) := by decide +kernel
theorem dX7_foldedSum_44 : decode cX7_foldedSum 44 = .ok (.invokevirtual 64, 3) := by decide +kernel
theorem dX7_foldedSum_47 : decode cX7_foldedSum 47 = .ok (.ireturn, 1) := by decide +kernel
theorem dX7_foldedSum_48 : decode cX7_foldedSum 48 = .ok (.aload_n 0, 1) := by decide +kernel
theorem dX7_foldedSum_49 : decode cX7_foldedSum 49 = .ok (.getfield 18, 3) := by decide +kernel
theorem dX7_foldedSum_52 : decode cX7_foldedSum 52 = .ok (.iload_n 1, 1) := by decide +kernel
theorem dX7_foldedSum_53 : decode cX7_foldedSum 53 = .ok (.lconst 0, 1) := by decide +kernel
theorem dX7_foldedSum_54 : decode cX7_foldedSum 54 = .ok (.invokevirtual 111, 3) := by decide +kernel
theorem dX7_foldedSum_57 : decode cX7_foldedSum 57 = .ok (.ifCond .eq 5, 3) := by decide +kernel
theorem dX7_foldedSum_60 : decode cX7_foldedSum 60 = .ok (.iload_n 2, 1) := by decide +kernel
theorem dX7_foldedSum_61 : decode cX7_foldedSum 61 = .ok (.ireturn, 1) := by decide +kernel
theorem dX7_foldedSum_62 : decode cX7_foldedSum 62 = .ok (.aload_n 0, 1) := by decide +kernel
theorem dX7_foldedSum_63 : decode cX7_foldedSum 63 = .ok (.getfield 18, 3) := by decide +kernel
theorem dX7_foldedSum_66 : decode cX7_foldedSum 66 = .ok (.iload_n 2, 1) := by decide +kernel
theorem dX7_foldedSum_67 : decode cX7_foldedSum 67 = .ok (.lconst 0, 1) := by decide +kernel
theorem dX7_foldedSum_68 : decode cX7_foldedSum 68 = .ok (.invokevirtual 111, 3) := by decide +kernel
theorem dX7_foldedSum_71 : decode cX7_foldedSum 71 = .ok (.ifCond .eq 7, 3) := by decide +kernel
theorem dX7_foldedSum_74 : decode cX7_foldedSum 74 = .ok (.iload_n 1, 1) := by decide +kernel
theorem dX7_foldedSum_75 : decode cX7_foldedSum 75 = .ok (.goto 13, 3) := by decide +kernel
theorem dX7_foldedSum_78 : decode cX7_foldedSum 78 = .ok (.aload_n 0, 1) := by decide +kernel
theorem dX7_foldedSum_79 : decode cX7_foldedSum 79 = .ok (.getfield 18, 3) := by decide +kernel
theorem dX7_foldedSum_82 : decode cX7_foldedSum 82 = .ok (.iconst 3, 1) := by decide +kernel
theorem dX7_foldedSum_83 : decode cX7_foldedSum 83 = .ok (.iload_n 1, 1) := by decide +kernel
theorem dX7_foldedSum_84 : decode cX7_foldedSum 84 = .ok (.iload_n 2, 1) := by decide +kernel
theorem dX7_foldedSum_85 : decode cX7_foldedSum 85 = .ok (.invokevirtual 68, 3) := by decide +kernel
theorem dX7_foldedSum_88 : decode cX7_foldedSum 88 = .ok (.ireturn, 1) := by decide +kernel
theorem dX7_foldedProduct_0 : decode cX7_foldedProduct 0 = .ok (.aload_n 0, 1) := by decide +kernel
theorem dX7_foldedProduct_1 : decode cX7_foldedProduct 1 = .ok (.getfield 18, 3) := by decide +kernel
theorem dX7_foldedProduct_4 : decode cX7_foldedProduct 4 = .ok (.iload_n 1, 1) := by decide +kernel
theorem dX7_foldedProduct_5 : decode cX7_foldedProduct 5 = .ok (.invokevirtual 102, 3) := by decide +kernel
theorem dX7_foldedProduct_8 : decode cX7_foldedProduct 8 = .ok (.ifCond .eq 40, 3) := by decide +kernel
theorem dX7_foldedProduct_11 : decode cX7_foldedProduct 11 = .ok (.aload_n 0, 1) := by decide +kernel
theorem dX7_foldedProduct_12 : decode cX7_foldedProduct 12 = .ok (.getfield 18, 3) := by decide +kernel
theorem dX7_foldedProduct_15 : decode cX7_foldedProduct 15 = .ok (.iload_n 2, 1) := by decide +kernel
theorem dX7_foldedProduct_16 : decode cX7_foldedProduct 16 = .ok (.invokevirtual 102, 3) := by decide +kernel
theorem dX7_foldedProduct_19 : decode cX7_foldedProduct 19 = .ok (.ifCond .eq 29, 3) := by decide +kernel
theorem dX7_foldedProduct_22 : decode cX7_foldedProduct 22 = .ok (.aload_n 0, 1) := by decide +kernel
theorem dX7_foldedProduct_23 : decode cX7_foldedProduct 23 = .ok (.getfield 18, 3) := by decide +kernel
theorem dX7_foldedProduct_26 : decode cX7_foldedProduct 26 = .ok (.iconst 0, 1) := by decide +kernel
theorem dX7_foldedProduct_27 : decode cX7_foldedProduct 27 = .ok (.aload_n 0, 1) := by decide +kernel
theorem dX7_foldedProduct_28 : decode cX7_foldedProduct 28 = .ok (.getfield 18, 3) := by decide +kernel
theorem dX7_foldedProduct_31 : decode cX7_foldedProduct 31 = .ok (.iload_n 1, 1) := by decide +kernel
theorem dX7_foldedProduct_32 : decode cX7_foldedProduct 32 = .ok (.invokevirtual 106, 3) := by decide +kernel
theorem dX7_foldedProduct_35 : decode cX7_foldedProduct 35 = .ok (.aload_n 0, 1) := by decide +kernel
theorem dX7_foldedProduct_36 : decode cX7_foldedProduct 36 = .ok (.getfield 18, 3) := by decide +kernel
theorem dX7_foldedProduct_39 : decode cX7_foldedProduct 39 = .ok (.iload_n 2, 1) := by decide +kernel
theorem dX7_foldedProduct_40 : decode cX7_foldedProduct 40 = .ok (.invokevirtual 106, 3) := by decide +kernel
theorem dX7_foldedProduct_43 : decode cX7_foldedProduct 43 = .ok (.lmul, 1) := by decide +kernel
theorem dX7_foldedProduct_44 : decode cX7_foldedProduct 44 = .ok (.invokevirtual 64, 3) := by decide +kernel
theorem dX7_foldedProduct_47 : decode cX7_foldedProduct 47 = .ok (.ireturn, 1) := by decide +kernel
theorem dX7_foldedProduct_48 : decode cX7_foldedProduct 48 = .ok (.aload_n 0, 1) := by decide +kernel
theorem dX7_foldedProduct_49 : decode cX7_foldedProduct 49 = .ok (.getfield 18, 3) := by decide +kernel
theorem dX7_foldedProduct_52 : decode cX7_foldedProduct 52 = .ok (.iload_n 1, 1) := by decide +kernel
theorem dX7_foldedProduct_53 : decode cX7_foldedProduct 53 = .ok (.lconst 0, 1) := by decide +kernel
theorem dX7_foldedProduct_54 : decode cX7_foldedProduct 54 = .ok (.invokevirtual 111, 3) := by decide +kernel
theorem dX7_foldedProduct_57 : decode cX7_foldedProduct 57 = .ok (.ifCond .ne 15, 3) := by decide +kernel
theorem dX7_foldedProduct_60 : decode cX7_foldedProduct 60 = .ok (.aload_n 0, 1) := by decide +kernel
theorem dX7_foldedProduct_61 : decode cX7_foldedProduct 61 = .ok (.getfield 18, 3) := by decide +kernel
theorem dX7_foldedProduct_64 : decode cX7_foldedProduct 64 = .ok (.iload_n 2, 1) := by decide +kernel
theorem dX7_foldedProduct_65 : decode cX7_foldedProduct 65 = .ok (.lconst 0, 1) := by decide +kernel
theorem dX7_foldedProduct_66 : decode cX7_foldedProduct 66 = .ok (.invokevirtual 111, 3) := by decide +kernel
theorem dX7_foldedProduct_69 : decode cX7_foldedProduct 69 = .ok (.ifCond .eq 13, 3) := by decide +kernel
theorem dX7_foldedProduct_72 : decode cX7_foldedProduct 72 = .ok (.aload_n 0, 1) := by decide +kernel
theorem dX7_foldedProduct_73 : decode cX7_foldedProduct 73 = .ok (.getfield 18, 3) := by decide +kernel
theorem dX7_foldedProduct_76 : decode cX7_foldedProduct 76 = .ok (.iconst 0, 1) := by decide +kernel
theorem dX7_foldedProduct_77 : decode cX7_foldedProduct 77 = .ok (.lconst 0, 1) := by decide +kernel
theorem dX7_foldedProduct_78 : decode cX7_foldedProduct 78 = .ok (.invokevirtual 64, 3) := by decide +kernel
theorem dX7_foldedProduct_81 : decode cX7_foldedProduct 81 = .ok (.ireturn, 1) := by decide +kernel
theorem dX7_foldedProduct_82 : decode cX7_foldedProduct 82 = .ok (.aload_n 0, 1) := by decide +kernel
theorem dX7_foldedProduct_83 : decode cX7_foldedProduct 83 = .ok (.getfield 18, 3) := by decide +kernel
theorem dX7_foldedProduct_86 : decode cX7_foldedProduct 86 = .ok (.iload_n 1, 1) := by decide +kernel
theorem dX7_foldedProduct_87 : decode cX7_foldedProduct 87 = .ok (.lconst 1, 1) := by decide +kernel
theorem dX7_foldedProduct_88 : decode cX7_foldedProduct 88 = .ok (.invokevirtual 111, 3) := by decide +kernel
theorem dX7_foldedProduct_91 : decode cX7_foldedProduct 91 = .ok (.ifCond .eq 5, 3) := by decide +kernel
theorem dX7_foldedProduct_94 : decode cX7_foldedProduct 94 = .ok (.iload_n 2, 1) := by decide +kernel
theorem dX7_foldedProduct_95 : decode cX7_foldedProduct 95 = .ok (.ireturn, 1) := by decide +kernel
theorem dX7_foldedProduct_96 : decode cX7_foldedProduct 96 = .ok (.aload_n 0, 1) := by decide +kernel
theorem dX7_foldedProduct_97 : decode cX7_foldedProduct 97 = .ok (.getfield 18, 3) := by decide +kernel
theorem dX7_foldedProduct_100 : decode cX7_foldedProduct 100 = .ok (.iload_n 2, 1) := by decide +kernel
theorem dX7_foldedProduct_101 : decode cX7_foldedProduct 101 = .ok (.lconst 1, 1) := by decide +kernel
theorem dX7_foldedProduct_102 : decode cX7_foldedProduct 102 = .ok (.invokevirtual 111, 3) := by decide +kernel
theorem dX7_foldedProduct_105 : decode cX7_foldedProduct 105 = .ok (.ifCond .eq 7, 3) := by decide +kernel
theorem dX7_foldedProduct_108 : decode cX7_foldedProduct 108 = .ok (.iload_n 1, 1) := by decide +kernel
theorem dX7_foldedProduct_109 : decode cX7_foldedProduct 109 = .ok (.goto 13, 3) := by decide +kernel
theorem dX7_foldedProduct_112 : decode cX7_foldedProduct 112 = .ok (.aload_n 0, 1) := by decide +kernel
theorem dX7_foldedProduct_113 : decode cX7_foldedProduct 113 = .ok (.getfield 18, 3) := by decide +kernel
theorem dX7_foldedProduct_116 : decode cX7_foldedProduct 116 = .ok (.iconst 4, 1) := by decide +kernel
theorem dX7_foldedProduct_117 : decode cX7_foldedProduct 117 = .ok (.iload_n 1, 1) := by decide +kernel
theorem dX7_foldedProduct_118 : decode cX7_foldedProduct 118 = .ok (.iload_n 2, 1) := by decide +kernel
theorem dX7_foldedProduct_119 : decode cX7_foldedProduct 119 = .ok (.invokevirtual 68, 3) := by decide +kernel
theorem dX7_foldedProduct_122 : decode cX7_foldedProduct 122 = .ok (.ireturn, 1) := by decide +kernel
theorem dX7_foldedPower_0 : decode cX7_foldedPower 0 = .ok (.lload_n 2, 1) := by decide +kernel
theorem dX7_foldedPower_1 : decode cX7_foldedPower 1 = .ok (.lconst 0, 1) := by decide +kernel
theorem dX7_foldedPower_2 : decode cX7_foldedPower 2 = .ok (.lcmp, 1) := by decide +kernel
theorem dX7_foldedPower_3 : decode cX7_foldedPower 3 = .ok (.ifCond .ne 13, 3) := by decide +kernel
theorem dX7_foldedPower_6 : decode cX7_foldedPower 6 = .ok (.aload_n 0, 1) := by decide +kernel
theorem dX7_foldedPower_7 : decode cX7_foldedPower 7 = .ok (.getfield 18, 3) := by decide +kernel
theorem dX7_foldedPower_10 : decode cX7_foldedPower 10 = .ok (.iconst 0, 1) := by decide +kernel
theorem dX7_foldedPower_11 : decode cX7_foldedPower 11 = .ok (.lconst 1, 1) := by decide +kernel
theorem dX7_foldedPower_12 : decode cX7_foldedPower 12 = .ok (.invokevirtual 64, 3) := by decide +kernel
theorem dX7_foldedPower_15 : decode cX7_foldedPower 15 = .ok (.ireturn, 1) := by decide +kernel
theorem dX7_foldedPower_16 : decode cX7_foldedPower 16 = .ok (.lload_n 2, 1) := by decide +kernel
theorem dX7_foldedPower_17 : decode cX7_foldedPower 17 = .ok (.lconst 1, 1) := by decide +kernel
theorem dX7_foldedPower_18 : decode cX7_foldedPower 18 = .ok (.lcmp, 1) := by decide +kernel
theorem dX7_foldedPower_19 : decode cX7_foldedPower 19 = .ok (.ifCond .ne 5, 3) := by decide +kernel
theorem dX7_foldedPower_22 : decode cX7_foldedPower 22 = .ok (.iload_n 1, 1) := by decide +kernel
theorem dX7_foldedPower_23 : decode cX7_foldedPower 23 = .ok (.ireturn, 1) := by decide +kernel
theorem dX7_foldedPower_24 : decode cX7_foldedPower 24 = .ok (.aload_n 0, 1) := by decide +kernel
theorem dX7_foldedPower_25 : decode cX7_foldedPower 25 = .ok (.getfield 18, 3) := by decide +kernel
theorem dX7_foldedPower_28 : decode cX7_foldedPower 28 = .ok (.iload_n 1, 1) := by decide +kernel
theorem dX7_foldedPower_29 : decode cX7_foldedPower 29 = .ok (.invokevirtual 102, 3) := by decide +kernel
theorem dX7_foldedPower_32 : decode cX7_foldedPower 32 = .ok (.ifCond .eq 24, 3) := by decide +kernel
theorem dX7_foldedPower_35 : decode cX7_foldedPower 35 = .ok (.aload_n 0, 1) := by decide +kernel
theorem dX7_foldedPower_36 : decode cX7_foldedPower 36 = .ok (.getfield 18, 3) := by decide +kernel
theorem dX7_foldedPower_39 : decode cX7_foldedPower 39 = .ok (.iconst 0, 1) := by decide +kernel
theorem dX7_foldedPower_40 : decode cX7_foldedPower 40 = .ok (.aload_n 0, 1) := by decide +kernel
theorem dX7_foldedPower_41 : decode cX7_foldedPower 41 = .ok (.getfield 18, 3) := by decide +kernel
theorem dX7_foldedPower_44 : decode cX7_foldedPower 44 = .ok (.iload_n 1, 1) := by decide +kernel
theorem dX7_foldedPower_45 : decode cX7_foldedPower 45 = .ok (.invokevirtual 106, 3) := by decide +kernel
theorem dX7_foldedPower_48 : decode cX7_foldedPower 48 = .ok (.lload_n 2, 1) := by decide +kernel
theorem dX7_foldedPower_49 : decode cX7_foldedPower 49 = .ok (.invokestatic 114, 3) := by decide +kernel
theorem dX7_foldedPower_52 : decode cX7_foldedPower 52 = .ok (.invokevirtual 64, 3) := by decide +kernel
theorem dX7_foldedPower_55 : decode cX7_foldedPower 55 = .ok (.ireturn, 1) := by decide +kernel
theorem dX7_foldedPower_56 : decode cX7_foldedPower 56 = .ok (.aload_n 0, 1) := by decide +kernel
theorem dX7_foldedPower_57 : decode cX7_foldedPower 57 = .ok (.getfield 18, 3) := by decide +kernel
theorem dX7_foldedPower_60 : decode cX7_foldedPower 60 = .ok (.iconst 5, 1) := by decide +kernel
theorem dX7_foldedPower_61 : decode cX7_foldedPower 61 = .ok (.lload_n 2, 1) := by decide +kernel
theorem dX7_foldedPower_62 : decode cX7_foldedPower 62 = .ok (.iload_n 1, 1) := by decide +kernel
theorem dX7_foldedPower_63 : decode cX7_foldedPower 63 = .ok (.iconst (-1), 1) := by decide +kernel
theorem dX7_foldedPower_64 : decode cX7_foldedPower 64 = .ok (.iconst (-1), 1) := by decide +kernel
theorem dX7_foldedPower_65 : decode cX7_foldedPower 65 = .ok (.invokevirtual 43, 3) := by decide +kernel
theorem dX7_foldedPower_68 : decode cX7_foldedPower 68 = .ok (.ireturn, 1) := by decide +kernel
theorem dX7_foldedPick_0 : decode cX7_foldedPick 0 = .ok (.aload_n 0, 1) := by decide +kernel
theorem dX7_foldedPick_1 : decode cX7_foldedPick 1 = .ok (.getfield 18, 3) := by decide +kernel
theorem dX7_foldedPick_4 : decode cX7_foldedPick 4 = .ok (.iload_n 1, 1) := by decide +kernel
theorem dX7_foldedPick_5 : decode cX7_foldedPick 5 = .ok (.invokevirtual 102, 3) := by decide +kernel
theorem dX7_foldedPick_8 : decode cX7_foldedPick 8 = .ok (.ifCond .eq 22, 3) := by decide +kernel
theorem dX7_foldedPick_11 : decode cX7_foldedPick 11 = .ok (.aload_n 0, 1) := by decide +kernel
theorem dX7_foldedPick_12 : decode cX7_foldedPick 12 = .ok (.getfield 18, 3) := by decide +kernel
theorem dX7_foldedPick_15 : decode cX7_foldedPick 15 = .ok (.iload_n 1, 1) := by decide +kernel
theorem dX7_foldedPick_16 : decode cX7_foldedPick 16 = .ok (.invokevirtual 106, 3) := by decide +kernel
theorem dX7_foldedPick_19 : decode cX7_foldedPick 19 = .ok (.lconst 0, 1) := by decide +kernel
theorem dX7_foldedPick_20 : decode cX7_foldedPick 20 = .ok (.lcmp, 1) := by decide +kernel
theorem dX7_foldedPick_21 : decode cX7_foldedPick 21 = .ok (.ifCond .eq 7, 3) := by decide +kernel
theorem dX7_foldedPick_24 : decode cX7_foldedPick 24 = .ok (.iload_n 2, 1) := by decide +kernel
theorem dX7_foldedPick_25 : decode cX7_foldedPick 25 = .ok (.goto 4, 3) := by decide +kernel
theorem dX7_foldedPick_28 : decode cX7_foldedPick 28 = .ok (.iload_n 3, 1) := by decide +kernel
theorem dX7_foldedPick_29 : decode cX7_foldedPick 29 = .ok (.ireturn, 1) := by decide +kernel
theorem dX7_foldedPick_30 : decode cX7_foldedPick 30 = .ok (.aload_n 0, 1) := by decide +kernel
theorem dX7_foldedPick_31 : decode cX7_foldedPick 31 = .ok (.getfield 18, 3) := by decide +kernel
theorem dX7_foldedPick_34 : decode cX7_foldedPick 34 = .ok (.bipush 6, 2) := by decide +kernel
theorem dX7_foldedPick_36 : decode cX7_foldedPick 36 = .ok (.lconst 0, 1) := by decide +kernel
theorem dX7_foldedPick_37 : decode cX7_foldedPick 37 = .ok (.iload_n 1, 1) := by decide +kernel
theorem dX7_foldedPick_38 : decode cX7_foldedPick 38 = .ok (.iload_n 2, 1) := by decide +kernel
theorem dX7_foldedPick_39 : decode cX7_foldedPick 39 = .ok (.iload_n 3, 1) := by decide +kernel
theorem dX7_foldedPick_40 : decode cX7_foldedPick 40 = .ok (.invokevirtual 43, 3) := by decide +kernel
theorem dX7_foldedPick_43 : decode cX7_foldedPick 43 = .ok (.ireturn, 1) := by decide +kernel
theorem dX7_foldedSquare_0 : decode cX7_foldedSquare 0 = .ok (.aload_n 0, 1) := by decide +kernel
theorem dX7_foldedSquare_1 : decode cX7_foldedSquare 1 = .ok (.getfield 18, 3) := by decide +kernel
theorem dX7_foldedSquare_4 : decode cX7_foldedSquare 4 = .ok (.iload_n 1, 1) := by decide +kernel
theorem dX7_foldedSquare_5 : decode cX7_foldedSquare 5 = .ok (.invokevirtual 102, 3) := by decide +kernel
theorem dX7_foldedSquare_8 : decode cX7_foldedSquare 8 = .ok (.ifCond .eq 29, 3) := by decide +kernel
theorem dX7_foldedSquare_11 : decode cX7_foldedSquare 11 = .ok (.aload_n 0, 1) := by decide +kernel
theorem dX7_foldedSquare_12 : decode cX7_foldedSquare 12 = .ok (.getfield 18, 3) := by decide +kernel
theorem dX7_foldedSquare_15 : decode cX7_foldedSquare 15 = .ok (.iconst 0, 1) := by decide +kernel
theorem dX7_foldedSquare_16 : decode cX7_foldedSquare 16 = .ok (.aload_n 0, 1) := by decide +kernel
theorem dX7_foldedSquare_17 : decode cX7_foldedSquare 17 = .ok (.getfield 18, 3) := by decide +kernel
theorem dX7_foldedSquare_20 : decode cX7_foldedSquare 20 = .ok (.iload_n 1, 1) := by decide +kernel
theorem dX7_foldedSquare_21 : decode cX7_foldedSquare 21 = .ok (.invokevirtual 106, 3) := by decide +kernel
theorem dX7_foldedSquare_24 : decode cX7_foldedSquare 24 = .ok (.aload_n 0, 1) := by decide +kernel
theorem dX7_foldedSquare_25 : decode cX7_foldedSquare 25 = .ok (.getfield 18, 3) := by decide +kernel
theorem dX7_foldedSquare_28 : decode cX7_foldedSquare 28 = .ok (.iload_n 1, 1) := by decide +kernel
theorem dX7_foldedSquare_29 : decode cX7_foldedSquare 29 = .ok (.invokevirtual 106, 3) := by decide +kernel
theorem dX7_foldedSquare_32 : decode cX7_foldedSquare 32 = .ok (.lmul, 1) := by decide +kernel
theorem dX7_foldedSquare_33 : decode cX7_foldedSquare 33 = .ok (.invokevirtual 64, 3) := by decide +kernel
theorem dX7_foldedSquare_36 : decode cX7_foldedSquare 36 = .ok (.ireturn, 1) := by decide +kernel
theorem dX7_foldedSquare_37 : decode cX7_foldedSquare 37 = .ok (.aload_n 0, 1) := by decide +kernel
theorem dX7_foldedSquare_38 : decode cX7_foldedSquare 38 = .ok (.getfield 18, 3) := by decide +kernel
theorem dX7_foldedSquare_41 : decode cX7_foldedSquare 41 = .ok (.bipush 7, 2) := by decide +kernel
theorem dX7_foldedSquare_43 : decode cX7_foldedSquare 43 = .ok (.iload_n 1, 1) := by decide +kernel
theorem dX7_foldedSquare_44 : decode cX7_foldedSquare 44 = .ok (.iconst (-1), 1) := by decide +kernel
theorem dX7_foldedSquare_45 : decode cX7_foldedSquare 45 = .ok (.invokevirtual 68, 3) := by decide +kernel
theorem dX7_foldedSquare_48 : decode cX7_foldedSquare 48 = .ok (.ireturn, 1) := by decide +kernel
theorem dX8_init_0 : decode cX8_init 0 = .ok (.aload_n 0, 1) := by decide +kernel
theorem dX8_init_1 : decode cX8_init 1 = .ok (.invokespecial 3, 3) := by decide +kernel
theorem dX8_init_4 : decode cX8_init 4 = .ok (.aload_n 0, 1) := by decide +kernel
theorem dX8_init_5 : decode cX8_init 5 = .ok (.sipush 200, 3) := by decide +kernel
theorem dX8_init_8 : decode cX8_init 8 = .ok (.newarray .long, 2) := by decide +kernel
theorem dX8_init_10 : decode cX8_init 10 = .ok (.putfield 9, 3) := by decide +kernel
theorem dX8_init_13 : decode cX8_init 13 = .ok (.aload_n 0, 1) := by decide +kernel
theorem dX8_init_14 : decode cX8_init 14 = .ok (.sipush 200, 3) := by decide +kernel
theorem dX8_init_17 : decode cX8_init 17 = .ok (.newarray .boolean, 2) := by decide +kernel
theorem dX8_init_19 : decode cX8_init 19 = .ok (.putfield 15, 3) := by decide +kernel
theorem dX8_init_22 : decode cX8_init 22 = .ok (.return_, 1) := by decide +kernel
theorem dX8_power_0 : decode cX8_power 0 = .ok (.lconst 1, 1) := by decide +kernel
theorem dX8_power_1 : decode cX8_power 1 = .ok (.lstore 4, 2) := by decide +kernel
theorem dX8_power_3 : decode cX8_power 3 = .ok (.iconst 0, 1) := by decide +kernel
theorem dX8_power_4 : decode cX8_power 4 = .ok (.istore 6, 2) := by decide +kernel
theorem dX8_power_6 : decode cX8_power 6 = .ok (.iload 6, 2) := by decide +kernel
theorem dX8_power_8 : decode cX8_power 8 = .ok (.i2l, 1) := by decide +kernel
theorem dX8_power_9 : decode cX8_power 9 = .ok (.lload_n 2, 1) := by decide +kernel
theorem dX8_power_10 : decode cX8_power 10 = .ok (.lcmp, 1) := by decide +kernel
theorem dX8_power_11 : decode cX8_power 11 = .ok (.ifCond .ge 22, 3) := by decide +kernel
theorem dX8_power_14 : decode cX8_power 14 = .ok (.iload 6, 2) := by decide +kernel
theorem dX8_power_16 : decode cX8_power 16 = .ok (.bipush 9, 2) := by decide +kernel
theorem dX8_power_18 : decode cX8_power 18 = .ok (.if_icmp .ge 15, 3) := by decide +kernel
theorem dX8_power_21 : decode cX8_power 21 = .ok (.lload 4, 2) := by decide +kernel
theorem dX8_power_23 : decode cX8_power 23 = .ok (.lload_n 0, 1) := by decide +kernel
theorem dX8_power_24 : decode cX8_power 24 = .ok (.lmul, 1) := by decide +kernel
theorem dX8_power_25 : decode cX8_power 25 = .ok (.lstore 4, 2) := by decide +kernel
theorem dX8_power_27 : decode cX8_power 27 = .ok (.iinc 6 1, 3) := by decide +kernel
theorem dX8_power_30 : decode cX8_power 30 = .ok (.goto (-24), 3) := by decide +kernel
theorem dX8_power_33 : decode cX8_power 33 = .ok (.lload 4, 2) := by decide +kernel
theorem dX8_power_35 : decode cX8_power 35 = .ok (.lreturn, 1) := by decide +kernel
theorem dX8_worthOf_0 : decode cX8_worthOf 0 = .ok (.aload_n 1, 1) := by decide +kernel
theorem dX8_worthOf_1 : decode cX8_worthOf 1 = .ok (.invokevirtual 19, 3) := by decide +kernel
theorem dX8_worthOf_4 : decode cX8_worthOf 4 = .ok (.iconst 1, 1) := by decide +kernel
theorem dX8_worthOf_5 : decode cX8_worthOf 5 = .ok (.isub, 1) := by decide +kernel
theorem dX8_worthOf_6 : decode cX8_worthOf 6 = .ok (.istore_n 3, 1) := by decide +kernel
theorem dX8_worthOf_7 : decode cX8_worthOf 7 = .ok (.iload_n 3, 1) := by decide +kernel
theorem dX8_worthOf_8 : decode cX8_worthOf 8 = .ok (.ifCond .lt 22, 3) := by decide +kernel
theorem dX8_worthOf_11 : decode cX8_worthOf 11 = .ok (.aload_n 0, 1) := by decide +kernel
theorem dX8_worthOf_12 : decode cX8_worthOf 12 = .ok (.getfield 9, 3) := by decide +kernel
theorem dX8_worthOf_15 : decode cX8_worthOf 15 = .ok (.iload_n 3, 1) := by decide +kernel
theorem dX8_worthOf_16 : decode cX8_worthOf 16 = .ok (.aload_n 0, 1) := by decide +kernel
theorem dX8_worthOf_17 : decode cX8_worthOf 17 = .ok (.aload_n 1, 1) := by decide +kernel
theorem dX8_worthOf_18 : decode cX8_worthOf 18 = .ok (.iload_n 3, 1) := by decide +kernel
theorem dX8_worthOf_19 : decode cX8_worthOf 19 = .ok (.aload_n 2, 1) := by decide +kernel
theorem dX8_worthOf_20 : decode cX8_worthOf 20 = .ok (.invokevirtual 25, 3) := by decide +kernel
theorem dX8_worthOf_23 : decode cX8_worthOf 23 = .ok (.lastore, 1) := by decide +kernel
theorem dX8_worthOf_24 : decode cX8_worthOf 24 = .ok (.iinc 3 (-1), 3) := by decide +kernel
theorem dX8_worthOf_27 : decode cX8_worthOf 27 = .ok (.goto (-20), 3) := by decide +kernel
theorem dX8_worthOf_30 : decode cX8_worthOf 30 = .ok (.aload_n 0, 1) := by decide +kernel
theorem dX8_worthOf_31 : decode cX8_worthOf 31 = .ok (.getfield 9, 3) := by decide +kernel
theorem dX8_worthOf_34 : decode cX8_worthOf 34 = .ok (.iconst 0, 1) := by decide +kernel
theorem dX8_worthOf_35 : decode cX8_worthOf 35 = .ok (.laload, 1) := by decide +kernel
theorem dX8_worthOf_36 : decode cX8_worthOf 36 = .ok (.lreturn, 1) := by decide +kernel
theorem dX8_worthAt_0 : decode cX8_worthAt 0 = .ok (.iload_n 1, 1) := by decide +kernel
theorem dX8_worthAt_1 : decode cX8_worthAt 1 = .ok (.ifCond .lt 19, 3) := by decide +kernel
theorem dX8_worthAt_4 : decode cX8_worthAt 4 = .ok (.iload_n 1, 1) := by decide +kernel
theorem dX8_worthAt_5 : decode cX8_worthAt 5 = .ok (.sipush 200, 3) := by decide +kernel
theorem dX8_worthAt_8 : decode cX8_worthAt 8 = .ok (.if_icmp .ge 12, 3) := by decide +kernel
theorem dX8_worthAt_11 : decode cX8_worthAt 11 = .ok (.aload_n 0, 1) := by decide +kernel
theorem dX8_worthAt_12 : decode cX8_worthAt 12 = .ok (.getfield 9, 3) := by decide +kernel
theorem dX8_worthAt_15 : decode cX8_worthAt 15 = .ok (.iload_n 1, 1) := by decide +kernel
theorem dX8_worthAt_16 : decode cX8_worthAt 16 = .ok (.laload, 1) := by decide +kernel
theorem dX8_worthAt_17 : decode cX8_worthAt 17 = .ok (.goto 4, 3) := by decide +kernel
theorem dX8_worthAt_20 : decode cX8_worthAt 20 = .ok (.lconst 0, 1) := by decide +kernel
theorem dX8_worthAt_21 : decode cX8_worthAt 21 = .ok (.lreturn, 1) := by decide +kernel
theorem dX8_valueOf_0 : decode cX8_valueOf 0 = .ok (.lload_n 1, 1) := by decide +kernel
theorem dX8_valueOf_1 : decode cX8_valueOf 1 = .ok (.lconst 0, 1) := by decide +kernel
theorem dX8_valueOf_2 : decode cX8_valueOf 2 = .ok (.lcmp, 1) := by decide +kernel
theorem dX8_valueOf_3 : decode cX8_valueOf 3 = .ok (.ifCond .lt 19, 3) := by decide +kernel
theorem dX8_valueOf_6 : decode cX8_valueOf 6 = .ok (.lload_n 1, 1) := by decide +kernel
theorem dX8_valueOf_7 : decode cX8_valueOf 7 = .ok (.aload_n 0, 1) := by decide +kernel
theorem dX8_valueOf_8 : decode cX8_valueOf 8 = .ok (.arraylength, 1) := by decide +kernel
theorem dX8_valueOf_9 : decode cX8_valueOf 9 = .ok (.i2l, 1) := by decide +kernel
theorem dX8_valueOf_10 : decode cX8_valueOf 10 = .ok (.lcmp, 1) := by decide +kernel
theorem dX8_valueOf_11 : decode cX8_valueOf 11 = .ok (.ifCond .ge 11, 3) := by decide +kernel
theorem dX8_valueOf_14 : decode cX8_valueOf 14 = .ok (.aload_n 0, 1) := by decide +kernel
theorem dX8_valueOf_15 : decode cX8_valueOf 15 = .ok (.lload_n 1, 1) := by decide +kernel
theorem dX8_valueOf_16 : decode cX8_valueOf 16 = .ok (.l2i, 1) := by decide +kernel
theorem dX8_valueOf_17 : decode cX8_valueOf 17 = .ok (.iaload, 1) := by decide +kernel
theorem dX8_valueOf_18 : decode cX8_valueOf 18 = .ok (.i2l, 1) := by decide +kernel
theorem dX8_valueOf_19 : decode cX8_valueOf 19 = .ok (.goto 4, 3) := by decide +kernel
theorem dX8_valueOf_22 : decode cX8_valueOf 22 = .ok (.lconst 0, 1) := by decide +kernel
theorem dX8_valueOf_23 : decode cX8_valueOf 23 = .ok (.lreturn, 1) := by decide +kernel
theorem dX8_nodeWorth_0 : decode cX8_nodeWorth 0 = .ok (.aload_n 0, 1) := by decide +kernel
theorem dX8_nodeWorth_1 : decode cX8_nodeWorth 1 = .ok (.iload_n 2, 1) := by decide +kernel
theorem dX8_nodeWorth_2 : decode cX8_nodeWorth 2 = .ok (.iconst 1, 1) := by decide +kernel
theorem dX8_nodeWorth_3 : decode cX8_nodeWorth 3 = .ok (.iadd, 1) := by decide +kernel
theorem dX8_nodeWorth_4 : decode cX8_nodeWorth 4 = .ok (.invokevirtual 29, 3) := by decide +kernel
theorem dX8_nodeWorth_7 : decode cX8_nodeWorth 7 = .ok (.lstore 4, 2) := by decide +kernel
theorem dX8_nodeWorth_9 : decode cX8_nodeWorth 9 = .ok (.aload_n 1, 1) := by decide +kernel
theorem dX8_nodeWorth_10 : decode cX8_nodeWorth 10 = .ok (.iload_n 2, 1) := by decide +kernel
theorem dX8_nodeWorth_11 : decode cX8_nodeWorth 11 = .ok (.invokevirtual 33, 3) := by decide +kernel
theorem dX8_nodeWorth_14 : decode cX8_nodeWorth 14 = .ok (.tableswitch 123 0 6 #[42, 48, 58, 62, 76, 90, 101], 42) := by decide +kernel
theorem dX8_nodeWorth_56 : decode cX8_nodeWorth 56 = .ok (.aload_n 1, 1) := by decide +kernel
theorem dX8_nodeWorth_57 : decode cX8_nodeWorth 57 = .ok (.iload_n 2, 1) := by decide +kernel
theorem dX8_nodeWorth_58 : decode cX8_nodeWorth 58 = .ok (.invokevirtual 37, 3) := by decide +kernel
theorem dX8_nodeWorth_61 : decode cX8_nodeWorth 61 = .ok (.lreturn, 1) := by decide +kernel
theorem dX8_nodeWorth_62 : decode cX8_nodeWorth 62 = .ok (.aload_n 3, 1) := by decide +kernel
theorem dX8_nodeWorth_63 : decode cX8_nodeWorth 63 = .ok (.aload_n 1, 1) := by decide +kernel
theorem dX8_nodeWorth_64 : decode cX8_nodeWorth 64 = .ok (.iload_n 2, 1) := by decide +kernel
theorem dX8_nodeWorth_65 : decode cX8_nodeWorth 65 = .ok (.invokevirtual 37, 3) := by decide +kernel
theorem dX8_nodeWorth_68 : decode cX8_nodeWorth 68 = .ok (.invokestatic 40, 3) := by decide +kernel
theorem dX8_nodeWorth_71 : decode cX8_nodeWorth 71 = .ok (.lreturn, 1) := by decide +kernel
theorem dX8_nodeWorth_72 : decode cX8_nodeWorth 72 = .ok (.lload 4, 2) := by decide +kernel
theorem dX8_nodeWorth_74 : decode cX8_nodeWorth 74 = .ok (.lneg, 1) := by decide +kernel
theorem dX8_nodeWorth_75 : decode cX8_nodeWorth 75 = .ok (.lreturn, 1) := by decide +kernel
theorem dX8_nodeWorth_76 : decode cX8_nodeWorth 76 = .ok (.lload 4, 2) := by decide +kernel
theorem dX8_nodeWorth_78 : decode cX8_nodeWorth 78 = .ok (.aload_n 0, 1) := by decide +kernel
theorem dX8_nodeWorth_79 : decode cX8_nodeWorth 79 = .ok (.aload_n 1, 1) := by decide +kernel
theorem dX8_nodeWorth_80 : decode cX8_nodeWorth 80 = .ok (.iload_n 2, 1) := by decide +kernel
theorem dX8_nodeWorth_81 : decode cX8_nodeWorth 81 = .ok (.iconst 1, 1) := by decide +kernel
theorem dX8_nodeWorth_82 : decode cX8_nodeWorth 82 = .ok (.invokevirtual 44, 3) := by decide +kernel
theorem dX8_nodeWorth_85 : decode cX8_nodeWorth 85 = .ok (.invokevirtual 29, 3) := by decide +kernel
theorem dX8_nodeWorth_88 : decode cX8_nodeWorth 88 = .ok (.ladd, 1) := by decide +kernel
theorem dX8_nodeWorth_89 : decode cX8_nodeWorth 89 = .ok (.lreturn, 1) := by decide +kernel
theorem dX8_nodeWorth_90 : decode cX8_nodeWorth 90 = .ok (.lload 4, 2) := by decide +kernel
theorem dX8_nodeWorth_92 : decode cX8_nodeWorth 92 = .ok (.aload_n 0, 1) := by decide +kernel
theorem dX8_nodeWorth_93 : decode cX8_nodeWorth 93 = .ok (.aload_n 1, 1) := by decide +kernel
theorem dX8_nodeWorth_94 : decode cX8_nodeWorth 94 = .ok (.iload_n 2, 1) := by decide +kernel
theorem dX8_nodeWorth_95 : decode cX8_nodeWorth 95 = .ok (.iconst 1, 1) := by decide +kernel
theorem dX8_nodeWorth_96 : decode cX8_nodeWorth 96 = .ok (.invokevirtual 44, 3) := by decide +kernel
theorem dX8_nodeWorth_99 : decode cX8_nodeWorth 99 = .ok (.invokevirtual 29, 3) := by decide +kernel
theorem dX8_nodeWorth_102 : decode cX8_nodeWorth 102 = .ok (.lmul, 1) := by decide +kernel
theorem dX8_nodeWorth_103 : decode cX8_nodeWorth 103 = .ok (.lreturn, 1) := by decide +kernel
theorem dX8_nodeWorth_104 : decode cX8_nodeWorth 104 = .ok (.lload 4, 2) := by decide +kernel
theorem dX8_nodeWorth_106 : decode cX8_nodeWorth 106 = .ok (.aload_n 1, 1) := by decide +kernel
theorem dX8_nodeWorth_107 : decode cX8_nodeWorth 107 = .ok (.iload_n 2, 1) := by decide +kernel
theorem dX8_nodeWorth_108 : decode cX8_nodeWorth 108 = .ok (.invokevirtual 37, 3) := by decide +kernel
theorem dX8_nodeWorth_111 : decode cX8_nodeWorth 111 = .ok (.invokestatic 48, 3) := by decide +kernel
theorem dX8_nodeWorth_114 : decode cX8_nodeWorth 114 = .ok (.lreturn, 1) := by decide +kernel
theorem dX8_nodeWorth_115 : decode cX8_nodeWorth 115 = .ok (.aload_n 0, 1) := by decide +kernel
theorem dX8_nodeWorth_116 : decode cX8_nodeWorth 116 = .ok (.aload_n 1, 1) := by decide +kernel
theorem dX8_nodeWorth_117 : decode cX8_nodeWorth 117 = .ok (.iload_n 2, 1) := by decide +kernel
theorem dX8_nodeWorth_118 : decode cX8_nodeWorth 118 = .ok (.lload 4, 2) := by decide +kernel
theorem dX8_nodeWorth_120 : decode cX8_nodeWorth 120 = .ok (.lconst 0, 1) := by decide +kernel
theorem dX8_nodeWorth_121 : decode cX8_nodeWorth 121 = .ok (.lcmp, 1) := by decide +kernel
theorem dX8_nodeWorth_122 : decode cX8_nodeWorth 122 = .ok (.ifCond .eq 7, 3) := by decide +kernel
theorem dX8_nodeWorth_125 : decode cX8_nodeWorth 125 = .ok (.iconst 1, 1) := by decide +kernel
theorem dX8_nodeWorth_126 : decode cX8_nodeWorth 126 = .ok (.goto 4, 3) := by decide +kernel
theorem dX8_nodeWorth_129 : decode cX8_nodeWorth 129 = .ok (.iconst 2, 1) := by decide +kernel
theorem dX8_nodeWorth_130 : decode cX8_nodeWorth 130 = .ok (.invokevirtual 44, 3) := by decide +kernel
theorem dX8_nodeWorth_133 : decode cX8_nodeWorth 133 = .ok (.invokevirtual 29, 3) := by decide +kernel
theorem dX8_nodeWorth_136 : decode cX8_nodeWorth 136 = .ok (.lreturn, 1) := by decide +kernel
theorem dX8_nodeWorth_137 : decode cX8_nodeWorth 137 = .ok (.lload 4, 2) := by decide +kernel
theorem dX8_nodeWorth_139 : decode cX8_nodeWorth 139 = .ok (.lload 4, 2) := by decide +kernel
theorem dX8_nodeWorth_141 : decode cX8_nodeWorth 141 = .ok (.lmul, 1) := by decide +kernel
theorem dX8_nodeWorth_142 : decode cX8_nodeWorth 142 = .ok (.lreturn, 1) := by decide +kernel
theorem dX8_metOf_0 : decode cX8_metOf 0 = .ok (.aload_n 0, 1) := by decide +kernel
theorem dX8_metOf_1 : decode cX8_metOf 1 = .ok (.aload_n 1, 1) := by decide +kernel
theorem dX8_metOf_2 : decode cX8_metOf 2 = .ok (.aload_n 2, 1) := by decide +kernel
theorem dX8_metOf_3 : decode cX8_metOf 3 = .ok (.invokevirtual 52, 3) := by decide +kernel
theorem dX8_metOf_6 : decode cX8_metOf 6 = .ok (.pop2, 1) := by decide +kernel
theorem dX8_metOf_7 : decode cX8_metOf 7 = .ok (.iconst 0, 1) := by decide +kernel
theorem dX8_metOf_8 : decode cX8_metOf 8 = .ok (.istore 4, 2) := by decide +kernel
theorem dX8_metOf_10 : decode cX8_metOf 10 = .ok (.iload 4, 2) := by decide +kernel
theorem dX8_metOf_12 : decode cX8_metOf 12 = .ok (.sipush 200, 3) := by decide +kernel
theorem dX8_metOf_15 : decode cX8_metOf 15 = .ok (.if_icmp .ge 26, 3) := by decide +kernel
theorem dX8_metOf_18 : decode cX8_metOf 18 = .ok (.aload_n 0, 1) := by decide +kernel
theorem dX8_metOf_19 : decode cX8_metOf 19 = .ok (.getfield 15, 3) := by decide +kernel
theorem dX8_metOf_22 : decode cX8_metOf 22 = .ok (.iload 4, 2) := by decide +kernel
theorem dX8_metOf_24 : decode cX8_metOf 24 = .ok (.iload 4, 2) := by decide +kernel
theorem dX8_metOf_26 : decode cX8_metOf 26 = .ok (.ifCond .ne 7, 3) := by decide +kernel
theorem dX8_metOf_29 : decode cX8_metOf 29 = .ok (.iconst 1, 1) := by decide +kernel
theorem dX8_metOf_30 : decode cX8_metOf 30 = .ok (.goto 4, 3) := by decide +kernel
theorem dX8_metOf_33 : decode cX8_metOf 33 = .ok (.iconst 0, 1) := by decide +kernel
theorem dX8_metOf_34 : decode cX8_metOf 34 = .ok (.bastore, 1) := by decide +kernel
theorem dX8_metOf_35 : decode cX8_metOf 35 = .ok (.iinc 4 1, 3) := by decide +kernel
theorem dX8_metOf_38 : decode cX8_metOf 38 = .ok (.goto (-28), 3) := by decide +kernel
theorem dX8_metOf_41 : decode cX8_metOf 41 = .ok (.iconst 0, 1) := by decide +kernel
theorem dX8_metOf_42 : decode cX8_metOf 42 = .ok (.istore 4, 2) := by decide +kernel
theorem dX8_metOf_44 : decode cX8_metOf 44 = .ok (.iconst 0, 1) := by decide +kernel
theorem dX8_metOf_45 : decode cX8_metOf 45 = .ok (.istore 5, 2) := by decide +kernel
theorem dX8_metOf_47 : decode cX8_metOf 47 = .ok (.iload 5, 2) := by decide +kernel
theorem dX8_metOf_49 : decode cX8_metOf 49 = .ok (.aload_n 1, 1) := by decide +kernel
theorem dX8_metOf_50 : decode cX8_metOf 50 = .ok (.invokevirtual 19, 3) := by decide +kernel
theorem dX8_metOf_53 : decode cX8_metOf 53 = .ok (.if_icmp .ge 41, 3) := by decide +kernel
theorem dX8_metOf_56 : decode cX8_metOf 56 = .ok (.aload_n 0, 1) := by decide +kernel
theorem dX8_metOf_57 : decode cX8_metOf 57 = .ok (.getfield 15, 3) := by decide +kernel
theorem dX8_metOf_60 : decode cX8_metOf 60 = .ok (.iload 5, 2) := by decide +kernel
theorem dX8_metOf_62 : decode cX8_metOf 62 = .ok (.baload, 1) := by decide +kernel
theorem dX8_metOf_63 : decode cX8_metOf 63 = .ok (.ifCond .eq 25, 3) := by decide +kernel
theorem dX8_metOf_66 : decode cX8_metOf 66 = .ok (.iload 4, 2) := by decide +kernel
theorem dX8_metOf_68 : decode cX8_metOf 68 = .ok (.aload_n 1, 1) := by decide +kernel
theorem dX8_metOf_69 : decode cX8_metOf 69 = .ok (.iload 5, 2) := by decide +kernel
theorem dX8_metOf_71 : decode cX8_metOf 71 = .ok (.invokevirtual 33, 3) := by decide +kernel
theorem dX8_metOf_74 : decode cX8_metOf 74 = .ok (.iload_n 3, 1) := by decide +kernel
theorem dX8_metOf_75 : decode cX8_metOf 75 = .ok (.invokestatic 56, 3) := by decide +kernel
theorem dX8_metOf_78 : decode cX8_metOf 78 = .ok (.iadd, 1) := by decide +kernel
theorem dX8_metOf_79 : decode cX8_metOf 79 = .ok (.istore 4, 2) := by decide +kernel
theorem dX8_metOf_81 : decode cX8_metOf 81 = .ok (.aload_n 0, 1) := by decide +kernel
theorem dX8_metOf_82 : decode cX8_metOf 82 = .ok (.aload_n 1, 1) := by decide +kernel
theorem dX8_metOf_83 : decode cX8_metOf 83 = .ok (.iload 5, 2) := by decide +kernel
theorem dX8_metOf_85 : decode cX8_metOf 85 = .ok (.invokevirtual 59, 3) := by decide +kernel
theorem dX8_metOf_88 : decode cX8_metOf 88 = .ok (.iinc 5 1, 3) := by decide +kernel
theorem dX8_metOf_91 : decode cX8_metOf 91 = .ok (.goto (-44), 3) := by decide +kernel
theorem dX8_metOf_94 : decode cX8_metOf 94 = .ok (.iload 4, 2) := by decide +kernel
theorem dX8_metOf_96 : decode cX8_metOf 96 = .ok (.ireturn, 1) := by decide +kernel
theorem dX8_metAs_0 : decode cX8_metAs 0 = .ok (.iload_n 0, 1) := by decide +kernel
theorem dX8_metAs_1 : decode cX8_metAs 1 = .ok (.bipush 7, 2) := by decide +kernel
theorem dX8_metAs_3 : decode cX8_metAs 3 = .ok (.if_icmp .ne 18, 3) := by decide +kernel
theorem dX8_metAs_6 : decode cX8_metAs 6 = .ok (.iload_n 1, 1) := by decide +kernel
theorem dX8_metAs_7 : decode cX8_metAs 7 = .ok (.iconst 4, 1) := by decide +kernel
theorem dX8_metAs_8 : decode cX8_metAs 8 = .ok (.if_icmp .eq 9, 3) := by decide +kernel
theorem dX8_metAs_11 : decode cX8_metAs 11 = .ok (.iload_n 1, 1) := by decide +kernel
theorem dX8_metAs_12 : decode cX8_metAs 12 = .ok (.bipush 8, 2) := by decide +kernel
theorem dX8_metAs_14 : decode cX8_metAs 14 = .ok (.if_icmp .ne 7, 3) := by decide +kernel
theorem dX8_metAs_17 : decode cX8_metAs 17 = .ok (.iconst 1, 1) := by decide +kernel
theorem dX8_metAs_18 : decode cX8_metAs 18 = .ok (.goto 4, 3) := by decide +kernel
theorem dX8_metAs_21 : decode cX8_metAs 21 = .ok (.iconst 0, 1) := by decide +kernel
theorem dX8_metAs_22 : decode cX8_metAs 22 = .ok (.istore_n 2, 1) := by decide +kernel
theorem dX8_metAs_23 : decode cX8_metAs 23 = .ok (.iload_n 0, 1) := by decide +kernel
theorem dX8_metAs_24 : decode cX8_metAs 24 = .ok (.iload_n 1, 1) := by decide +kernel
theorem dX8_metAs_25 : decode cX8_metAs 25 = .ok (.if_icmp .eq 9, 3) := by decide +kernel
theorem dX8_metAs_28 : decode cX8_metAs 28 = .ok (.iload_n 1, 1) := by decide +kernel
theorem dX8_metAs_29 : decode cX8_metAs 29 = .ok (.bipush 8, 2) := by decide +kernel
theorem dX8_metAs_31 : decode cX8_metAs 31 = .ok (.if_icmp .ne 7, 3) := by decide +kernel
theorem dX8_metAs_34 : decode cX8_metAs 34 = .ok (.iconst 1, 1) := by decide +kernel
theorem dX8_metAs_35 : decode cX8_metAs 35 = .ok (.goto 4, 3) := by decide +kernel
theorem dX8_metAs_38 : decode cX8_metAs 38 = .ok (.iconst 0, 1) := by decide +kernel
theorem dX8_metAs_39 : decode cX8_metAs 39 = .ok (.iload_n 2, 1) := by decide +kernel
theorem dX8_metAs_40 : decode cX8_metAs 40 = .ok (.iadd, 1) := by decide +kernel
theorem dX8_metAs_41 : decode cX8_metAs 41 = .ok (.ireturn, 1) := by decide +kernel
theorem dX8_askParts_0 : decode cX8_askParts 0 = .ok (.aload_n 1, 1) := by decide +kernel
theorem dX8_askParts_1 : decode cX8_askParts 1 = .ok (.iload_n 2, 1) := by decide +kernel
theorem dX8_askParts_2 : decode cX8_askParts 2 = .ok (.invokevirtual 33, 3) := by decide +kernel
theorem dX8_askParts_5 : decode cX8_askParts 5 = .ok (.istore_n 3, 1) := by decide +kernel
theorem dX8_askParts_6 : decode cX8_askParts 6 = .ok (.iconst 0, 1) := by decide +kernel
theorem dX8_askParts_7 : decode cX8_askParts 7 = .ok (.istore 4, 2) := by decide +kernel
theorem dX8_askParts_9 : decode cX8_askParts 9 = .ok (.iload 4, 2) := by decide +kernel
theorem dX8_askParts_11 : decode cX8_askParts 11 = .ok (.aload_n 1, 1) := by decide +kernel
theorem dX8_askParts_12 : decode cX8_askParts 12 = .ok (.iload_n 2, 1) := by decide +kernel
theorem dX8_askParts_13 : decode cX8_askParts 13 = .ok (.invokevirtual 63, 3) := by decide +kernel
theorem dX8_askParts_16 : decode cX8_askParts 16 = .ok (.if_icmp .ge 79, 3) := by decide +kernel
theorem dX8_askParts_19 : decode cX8_askParts 19 = .ok (.aload_n 1, 1) := by decide +kernel
theorem dX8_askParts_20 : decode cX8_askParts 20 = .ok (.iload_n 2, 1) := by decide +kernel
theorem dX8_askParts_21 : decode cX8_askParts 21 = .ok (.iload 4, 2) := by decide +kernel
theorem dX8_askParts_23 : decode cX8_askParts 23 = .ok (.invokevirtual 44, 3) := by decide +kernel
theorem dX8_askParts_26 : decode cX8_askParts 26 = .ok (.istore 5, 2) := by decide +kernel
theorem dX8_askParts_28 : decode cX8_askParts 28 = .ok (.iload_n 3, 1) := by decide +kernel
theorem dX8_askParts_29 : decode cX8_askParts 29 = .ok (.bipush 6, 2) := by decide +kernel
theorem dX8_askParts_31 : decode cX8_askParts 31 = .ok (.if_icmp .ne 34, 3) := by decide +kernel
theorem dX8_askParts_34 : decode cX8_askParts 34 = .ok (.iload 4, 2) := by decide +kernel
theorem dX8_askParts_36 : decode cX8_askParts 36 = .ok (.ifCond .le 29, 3) := by decide +kernel
theorem dX8_askParts_39 : decode cX8_askParts 39 = .ok (.iload 4, 2) := by decide +kernel
theorem dX8_askParts_41 : decode cX8_askParts 41 = .ok (.aload_n 0, 1) := by decide +kernel
theorem dX8_askParts_42 : decode cX8_askParts 42 = .ok (.iload_n 2, 1) := by decide +kernel
theorem dX8_askParts_43 : decode cX8_askParts 43 = .ok (.iconst 1, 1) := by decide +kernel
theorem dX8_askParts_44 : decode cX8_askParts 44 = .ok (.iadd, 1) := by decide +kernel
theorem dX8_askParts_45 : decode cX8_askParts 45 = .ok (.invokevirtual 29, 3) := by decide +kernel
theorem dX8_askParts_48 : decode cX8_askParts 48 = .ok (.lconst 0, 1) := by decide +kernel
theorem dX8_askParts_49 : decode cX8_askParts 49 = .ok (.lcmp, 1) := by decide +kernel
theorem dX8_askParts_50 : decode cX8_askParts 50 = .ok (.ifCond .eq 7, 3) := by decide +kernel
theorem dX8_askParts_53 : decode cX8_askParts 53 = .ok (.iconst 1, 1) := by decide +kernel
theorem dX8_askParts_54 : decode cX8_askParts 54 = .ok (.goto 4, 3) := by decide +kernel
theorem dX8_askParts_57 : decode cX8_askParts 57 = .ok (.iconst 2, 1) := by decide +kernel
theorem dX8_askParts_58 : decode cX8_askParts 58 = .ok (.if_icmp .eq 7, 3) := by decide +kernel
theorem dX8_askParts_61 : decode cX8_askParts 61 = .ok (.iconst 1, 1) := by decide +kernel
theorem dX8_askParts_62 : decode cX8_askParts 62 = .ok (.goto 4, 3) := by decide +kernel
theorem dX8_askParts_65 : decode cX8_askParts 65 = .ok (.iconst 0, 1) := by decide +kernel
theorem dX8_askParts_66 : decode cX8_askParts 66 = .ok (.istore 6, 2) := by decide +kernel
theorem dX8_askParts_68 : decode cX8_askParts 68 = .ok (.iload 5, 2) := by decide +kernel
theorem dX8_askParts_70 : decode cX8_askParts 70 = .ok (.sipush 200, 3) := by decide +kernel
theorem dX8_askParts_73 : decode cX8_askParts 73 = .ok (.if_icmp .ge 16, 3) := by decide +kernel
theorem dX8_askParts_76 : decode cX8_askParts 76 = .ok (.iload 6, 2) := by decide +kernel
theorem dX8_askParts_78 : decode cX8_askParts 78 = .ok (.ifCond .ne 11, 3) := by decide +kernel
theorem dX8_askParts_81 : decode cX8_askParts 81 = .ok (.aload_n 0, 1) := by decide +kernel
theorem dX8_askParts_82 : decode cX8_askParts 82 = .ok (.getfield 15, 3) := by decide +kernel
theorem dX8_askParts_85 : decode cX8_askParts 85 = .ok (.iload 5, 2) := by decide +kernel
theorem dX8_askParts_87 : decode cX8_askParts 87 = .ok (.iconst 1, 1) := by decide +kernel
theorem dX8_askParts_88 : decode cX8_askParts 88 = .ok (.bastore, 1) := by decide +kernel
theorem dX8_askParts_89 : decode cX8_askParts 89 = .ok (.iinc 4 1, 3) := by decide +kernel
theorem dX8_askParts_92 : decode cX8_askParts 92 = .ok (.goto (-83), 3) := by decide +kernel
theorem dX8_askParts_95 : decode cX8_askParts 95 = .ok (.return_, 1) := by decide +kernel
theorem dX9_init_0 : decode cX9_init 0 = .ok (.aload_n 0, 1) := by decide +kernel
theorem dX9_init_1 : decode cX9_init 1 = .ok (.invokespecial 1, 3) := by decide +kernel
theorem dX9_init_4 : decode cX9_init 4 = .ok (.aload_n 0, 1) := by decide +kernel
theorem dX9_init_5 : decode cX9_init 5 = .ok (.bipush 12, 2) := by decide +kernel
theorem dX9_init_7 : decode cX9_init 7 = .ok (.anewarray 9, 3) := by decide +kernel
theorem dX9_init_10 : decode cX9_init 10 = .ok (.putfield 11, 3) := by decide +kernel
theorem dX9_init_13 : decode cX9_init 13 = .ok (.aload_n 0, 1) := by decide +kernel
theorem dX9_init_14 : decode cX9_init 14 = .ok (.bipush 12, 2) := by decide +kernel
theorem dX9_init_16 : decode cX9_init 16 = .ok (.anewarray 9, 3) := by decide +kernel
theorem dX9_init_19 : decode cX9_init 19 = .ok (.putfield 15, 3) := by decide +kernel
theorem dX9_init_22 : decode cX9_init 22 = .ok (.aload_n 0, 1) := by decide +kernel
theorem dX9_init_23 : decode cX9_init 23 = .ok (.bipush 8, 2) := by decide +kernel
theorem dX9_init_25 : decode cX9_init 25 = .ok (.newarray .int, 2) := by decide +kernel
theorem dX9_init_27 : decode cX9_init 27 = .ok (.putfield 18, 3) := by decide +kernel
theorem dX9_init_30 : decode cX9_init 30 = .ok (.aload_n 0, 1) := by decide +kernel
theorem dX9_init_31 : decode cX9_init 31 = .ok (.bipush 8, 2) := by decide +kernel
theorem dX9_init_33 : decode cX9_init 33 = .ok (.newarray .int, 2) := by decide +kernel
theorem dX9_init_35 : decode cX9_init 35 = .ok (.putfield 22, 3) := by decide +kernel
theorem dX9_init_38 : decode cX9_init 38 = .ok (.aload_n 0, 1) := by decide +kernel
theorem dX9_init_39 : decode cX9_init 39 = .ok (.iconst 4, 1) := by decide +kernel
theorem dX9_init_40 : decode cX9_init 40 = .ok (.anewarray 25, 3) := by decide +kernel
theorem dX9_init_43 : decode cX9_init 43 = .ok (.putfield 27, 3) := by decide +kernel
theorem dX9_init_46 : decode cX9_init 46 = .ok (.aload_n 0, 1) := by decide +kernel
theorem dX9_init_47 : decode cX9_init 47 = .ok (.iconst 5, 1) := by decide +kernel
theorem dX9_init_48 : decode cX9_init 48 = .ok (.newarray .int, 2) := by decide +kernel
theorem dX9_init_50 : decode cX9_init 50 = .ok (.putfield 31, 3) := by decide +kernel
theorem dX9_init_53 : decode cX9_init 53 = .ok (.aload_n 0, 1) := by decide +kernel
theorem dX9_init_54 : decode cX9_init 54 = .ok (.bipush 8, 2) := by decide +kernel
theorem dX9_init_56 : decode cX9_init 56 = .ok (.newarray .int, 2) := by decide +kernel
theorem dX9_init_58 : decode cX9_init 58 = .ok (.putfield 34, 3) := by decide +kernel
theorem dX9_init_61 : decode cX9_init 61 = .ok (.aload_n 0, 1) := by decide +kernel
theorem dX9_init_62 : decode cX9_init 62 = .ok (.new 9, 3) := by decide +kernel
theorem dX9_init_65 : decode cX9_init 65 = .ok (.dup, 1) := by decide +kernel
theorem dX9_init_66 : decode cX9_init 66 = .ok (.invokespecial 37, 3) := by decide +kernel
theorem dX9_init_69 : decode cX9_init 69 = .ok (.putfield 38, 3) := by decide +kernel
theorem dX9_init_72 : decode cX9_init 72 = .ok (.aload_n 0, 1) := by decide +kernel
theorem dX9_init_73 : decode cX9_init 73 = .ok (.new 42, 3) := by decide +kernel
theorem dX9_init_76 : decode cX9_init 76 = .ok (.dup, 1) := by decide +kernel
theorem dX9_init_77 : decode cX9_init 77 = .ok (.invokespecial 44, 3) := by decide +kernel
theorem dX9_init_80 : decode cX9_init 80 = .ok (.putfield 45, 3) := by decide +kernel
theorem dX9_init_83 : decode cX9_init 83 = .ok (.aload_n 0, 1) := by decide +kernel
theorem dX9_init_84 : decode cX9_init 84 = .ok (.new 49, 3) := by decide +kernel
theorem dX9_init_87 : decode cX9_init 87 = .ok (.dup, 1) := by decide +kernel
theorem dX9_init_88 : decode cX9_init 88 = .ok (.aload_n 0, 1) := by decide +kernel
theorem dX9_init_89 : decode cX9_init 89 = .ok (.getfield 45, 3) := by decide +kernel
theorem dX9_init_92 : decode cX9_init 92 = .ok (.invokespecial 51, 3) := by decide +kernel
theorem dX9_init_95 : decode cX9_init 95 = .ok (.putfield 54, 3) := by decide +kernel
theorem dX9_init_98 : decode cX9_init 98 = .ok (.aload_n 0, 1) := by decide +kernel
theorem dX9_init_99 : decode cX9_init 99 = .ok (.new 58, 3) := by decide +kernel
theorem dX9_init_102 : decode cX9_init 102 = .ok (.dup, 1) := by decide +kernel
theorem dX9_init_103 : decode cX9_init 103 = .ok (.aload_n 0, 1) := by decide +kernel
theorem dX9_init_104 : decode cX9_init 104 = .ok (.getfield 45, 3) := by decide +kernel
theorem dX9_init_107 : decode cX9_init 107 = .ok (.invokespecial 60, 3) := by decide +kernel
theorem dX9_init_110 : decode cX9_init 110 = .ok (.putfield 61, 3) := by decide +kernel
theorem dX9_init_113 : decode cX9_init 113 = .ok (.aload_n 0, 1) := by decide +kernel
theorem dX9_init_114 : decode cX9_init 114 = .ok (.new 65, 3) := by decide +kernel
theorem dX9_init_117 : decode cX9_init 117 = .ok (.dup, 1) := by decide +kernel
theorem dX9_init_118 : decode cX9_init 118 = .ok (.invokespecial 67, 3) := by decide +kernel
theorem dX9_init_121 : decode cX9_init 121 = .ok (.putfield 68, 3) := by decide +kernel
theorem dX9_init_124 : decode cX9_init 124 = .ok (.aload_n 0, 1) := by decide +kernel
theorem dX9_init_125 : decode cX9_init 125 = .ok (.new 72, 3) := by decide +kernel
theorem dX9_init_128 : decode cX9_init 128 = .ok (.dup, 1) := by decide +kernel
theorem dX9_init_129 : decode cX9_init 129 = .ok (.invokespecial 74, 3) := by decide +kernel
theorem dX9_init_132 : decode cX9_init 132 = .ok (.putfield 75, 3) := by decide +kernel
theorem dX9_init_135 : decode cX9_init 135 = .ok (.aload_n 0, 1) := by decide +kernel
theorem dX9_init_136 : decode cX9_init 136 = .ok (.new 79, 3) := by decide +kernel
theorem dX9_init_139 : decode cX9_init 139 = .ok (.dup, 1) := by decide +kernel
theorem dX9_init_140 : decode cX9_init 140 = .ok (.invokespecial 81, 3) := by decide +kernel
theorem dX9_init_143 : decode cX9_init 143 = .ok (.putfield 82, 3) := by decide +kernel
theorem dX9_init_146 : decode cX9_init 146 = .ok (.aload_n 0, 1) := by decide +kernel
theorem dX9_init_147 : decode cX9_init 147 = .ok (.new 86, 3) := by decide +kernel
theorem dX9_init_150 : decode cX9_init 150 = .ok (.dup, 1) := by decide +kernel
theorem dX9_init_151 : decode cX9_init 151 = .ok (.invokespecial 88, 3) := by decide +kernel
theorem dX9_init_154 : decode cX9_init 154 = .ok (.putfield 89, 3) := by decide +kernel
theorem dX9_init_157 : decode cX9_init 157 = .ok (.iconst 0, 1) := by decide +kernel
theorem dX9_init_158 : decode cX9_init 158 = .ok (.istore_n 1, 1) := by decide +kernel
theorem dX9_init_159 : decode cX9_init 159 = .ok (.iload_n 1, 1) := by decide +kernel
theorem dX9_init_160 : decode cX9_init 160 = .ok (.bipush 12, 2) := by decide +kernel
theorem dX9_init_162 : decode cX9_init 162 = .ok (.if_icmp .ge 35, 3) := by decide +kernel
theorem dX9_init_165 : decode cX9_init 165 = .ok (.aload_n 0, 1) := by decide +kernel
theorem dX9_init_166 : decode cX9_init 166 = .ok (.getfield 11, 3) := by decide +kernel
theorem dX9_init_169 : decode cX9_init 169 = .ok (.iload_n 1, 1) := by decide +kernel
theorem dX9_init_170 : decode cX9_init 170 = .ok (.new 9, 3) := by decide +kernel
theorem dX9_init_173 : decode cX9_init 173 = .ok (.dup, 1) := by decide +kernel
theorem dX9_init_174 : decode cX9_init 174 = .ok (.invokespecial 37, 3) := by decide +kernel
theorem dX9_init_177 : decode cX9_init 177 = .ok (.aastore, 1) := by decide +kernel
theorem dX9_init_178 : decode cX9_init 178 = .ok (.aload_n 0, 1) := by decide +kernel
theorem dX9_init_179 : decode cX9_init 179 = .ok (.getfield 15, 3) := by decide +kernel
theorem dX9_init_182 : decode cX9_init 182 = .ok (.iload_n 1, 1) := by decide +kernel
theorem dX9_init_183 : decode cX9_init 183 = .ok (.new 9, 3) := by decide +kernel
theorem dX9_init_186 : decode cX9_init 186 = .ok (.dup, 1) := by decide +kernel
theorem dX9_init_187 : decode cX9_init 187 = .ok (.invokespecial 37, 3) := by decide +kernel
theorem dX9_init_190 : decode cX9_init 190 = .ok (.aastore, 1) := by decide +kernel
theorem dX9_init_191 : decode cX9_init 191 = .ok (.iinc 1 1, 3) := by decide +kernel
theorem dX9_init_194 : decode cX9_init 194 = .ok (.goto (-35), 3) := by decide +kernel
theorem dX9_init_197 : decode cX9_init 197 = .ok (.iconst 0, 1) := by decide +kernel
theorem dX9_init_198 : decode cX9_init 198 = .ok (.istore_n 1, 1) := by decide +kernel
theorem dX9_init_199 : decode cX9_init 199 = .ok (.iload_n 1, 1) := by decide +kernel
theorem dX9_init_200 : decode cX9_init 200 = .ok (.iconst 4, 1) := by decide +kernel
theorem dX9_init_201 : decode cX9_init 201 = .ok (.if_icmp .ge 22, 3) := by decide +kernel
theorem dX9_init_204 : decode cX9_init 204 = .ok (.aload_n 0, 1) := by decide +kernel
theorem dX9_init_205 : decode cX9_init 205 = .ok (.getfield 27, 3) := by decide +kernel
theorem dX9_init_208 : decode cX9_init 208 = .ok (.iload_n 1, 1) := by decide +kernel
theorem dX9_init_209 : decode cX9_init 209 = .ok (.new 25, 3) := by decide +kernel
theorem dX9_init_212 : decode cX9_init 212 = .ok (.dup, 1) := by decide +kernel
theorem dX9_init_213 : decode cX9_init 213 = .ok (.invokespecial 93, 3) := by decide +kernel
theorem dX9_init_216 : decode cX9_init 216 = .ok (.aastore, 1) := by decide +kernel
theorem dX9_init_217 : decode cX9_init 217 = .ok (.iinc 1 1, 3) := by decide +kernel
theorem dX9_init_220 : decode cX9_init 220 = .ok (.goto (-21), 3) := by decide +kernel
theorem dX9_init_223 : decode cX9_init 223 = .ok (.return_, 1) := by decide +kernel
theorem dX9_feed_0 : decode cX9_feed 0 = .ok (.iload_n 1, 1) := by decide +kernel
theorem dX9_feed_1 : decode cX9_feed 1 = .ok (.iconst 1, 1) := by decide +kernel
theorem dX9_feed_2 : decode cX9_feed 2 = .ok (.if_icmp .lt 46, 3) := by decide +kernel
theorem dX9_feed_5 : decode cX9_feed 5 = .ok (.iload_n 1, 1) := by decide +kernel
theorem dX9_feed_6 : decode cX9_feed 6 = .ok (.iconst 5, 1) := by decide +kernel
theorem dX9_feed_7 : decode cX9_feed 7 = .ok (.if_icmp .gt 41, 3) := by decide +kernel
theorem dX9_feed_10 : decode cX9_feed 10 = .ok (.iload_n 2, 1) := by decide +kernel
theorem dX9_feed_11 : decode cX9_feed 11 = .ok (.invokestatic 94, 3) := by decide +kernel
theorem dX9_feed_14 : decode cX9_feed 14 = .ok (.ifCond .eq 34, 3) := by decide +kernel
theorem dX9_feed_17 : decode cX9_feed 17 = .ok (.iload_n 3, 1) := by decide +kernel
theorem dX9_feed_18 : decode cX9_feed 18 = .ok (.invokestatic 94, 3) := by decide +kernel
theorem dX9_feed_21 : decode cX9_feed 21 = .ok (.ifCond .eq 27, 3) := by decide +kernel
theorem dX9_feed_24 : decode cX9_feed 24 = .ok (.iload 4, 2) := by decide +kernel
theorem dX9_feed_26 : decode cX9_feed 26 = .ok (.invokestatic 94, 3) := by decide +kernel
theorem dX9_feed_29 : decode cX9_feed 29 = .ok (.ifCond .eq 19, 3) := by decide +kernel
theorem dX9_feed_32 : decode cX9_feed 32 = .ok (.iload 5, 2) := by decide +kernel
theorem dX9_feed_34 : decode cX9_feed 34 = .ok (.invokestatic 94, 3) := by decide +kernel
theorem dX9_feed_37 : decode cX9_feed 37 = .ok (.ifCond .eq 11, 3) := by decide +kernel
theorem dX9_feed_40 : decode cX9_feed 40 = .ok (.iload 6, 2) := by decide +kernel
theorem dX9_feed_42 : decode cX9_feed 42 = .ok (.invokestatic 94, 3) := by decide +kernel
theorem dX9_feed_45 : decode cX9_feed 45 = .ok (.ifCond .ne 6, 3) := by decide +kernel
theorem dX9_feed_48 : decode cX9_feed 48 = .ok (.bipush (-2), 2) := by decide +kernel
theorem dX9_feed_50 : decode cX9_feed 50 = .ok (.ireturn, 1) := by decide +kernel
theorem dX9_feed_51 : decode cX9_feed 51 = .ok (.aload_n 0, 1) := by decide +kernel
theorem dX9_feed_52 : decode cX9_feed 52 = .ok (.getfield 54, 3) := by decide +kernel
theorem dX9_feed_55 : decode cX9_feed 55 = .ok (.invokevirtual 98, 3) := by decide +kernel
theorem dX9_feed_58 : decode cX9_feed 58 = .ok (.iload_n 1, 1) := by decide +kernel
theorem dX9_feed_59 : decode cX9_feed 59 = .ok (.iadd, 1) := by decide +kernel
theorem dX9_feed_60 : decode cX9_feed 60 = .ok (.bipush 120, 2) := by decide +kernel
theorem dX9_feed_62 : decode cX9_feed 62 = .ok (.if_icmp .le 6, 3) := by decide +kernel
theorem dX9_feed_65 : decode cX9_feed 65 = .ok (.bipush (-4), 2) := by decide +kernel
theorem dX9_feed_67 : decode cX9_feed 67 = .ok (.ireturn, 1) := by decide +kernel
theorem dX9_feed_68 : decode cX9_feed 68 = .ok (.aload_n 0, 1) := by decide +kernel
theorem dX9_feed_69 : decode cX9_feed 69 = .ok (.getfield 31, 3) := by decide +kernel
theorem dX9_feed_72 : decode cX9_feed 72 = .ok (.iconst 0, 1) := by decide +kernel
theorem dX9_feed_73 : decode cX9_feed 73 = .ok (.iload_n 2, 1) := by decide +kernel
theorem dX9_feed_74 : decode cX9_feed 74 = .ok (.iastore, 1) := by decide +kernel
theorem dX9_feed_75 : decode cX9_feed 75 = .ok (.aload_n 0, 1) := by decide +kernel
theorem dX9_feed_76 : decode cX9_feed 76 = .ok (.getfield 31, 3) := by decide +kernel
theorem dX9_feed_79 : decode cX9_feed 79 = .ok (.iconst 1, 1) := by decide +kernel
theorem dX9_feed_80 : decode cX9_feed 80 = .ok (.iload_n 3, 1) := by decide +kernel
theorem dX9_feed_81 : decode cX9_feed 81 = .ok (.iastore, 1) := by decide +kernel
theorem dX9_feed_82 : decode cX9_feed 82 = .ok (.aload_n 0, 1) := by decide +kernel
theorem dX9_feed_83 : decode cX9_feed 83 = .ok (.getfield 31, 3) := by decide +kernel
theorem dX9_feed_86 : decode cX9_feed 86 = .ok (.iconst 2, 1) := by decide +kernel
theorem dX9_feed_87 : decode cX9_feed 87 = .ok (.iload 4, 2) := by decide +kernel
theorem dX9_feed_89 : decode cX9_feed 89 = .ok (.iastore, 1) := by decide +kernel
theorem dX9_feed_90 : decode cX9_feed 90 = .ok (.aload_n 0, 1) := by decide +kernel
theorem dX9_feed_91 : decode cX9_feed 91 = .ok (.getfield 31, 3) := by decide +kernel
theorem dX9_feed_94 : decode cX9_feed 94 = .ok (.iconst 3, 1) := by decide +kernel
theorem dX9_feed_95 : decode cX9_feed 95 = .ok (.iload 5, 2) := by decide +kernel
theorem dX9_feed_97 : decode cX9_feed 97 = .ok (.iastore, 1) := by decide +kernel
theorem dX9_feed_98 : decode cX9_feed 98 = .ok (.aload_n 0, 1) := by decide +kernel
theorem dX9_feed_99 : decode cX9_feed 99 = .ok (.getfield 31, 3) := by decide +kernel
theorem dX9_feed_102 : decode cX9_feed 102 = .ok (.iconst 4, 1) := by decide +kernel
theorem dX9_feed_103 : decode cX9_feed 103 = .ok (.iload 6, 2) := by decide +kernel
theorem dX9_feed_105 : decode cX9_feed 105 = .ok (.iastore, 1) := by decide +kernel
theorem dX9_feed_106 : decode cX9_feed 106 = .ok (.iconst 0, 1) := by decide +kernel
theorem dX9_feed_107 : decode cX9_feed 107 = .ok (.istore 7, 2) := by decide +kernel
theorem dX9_feed_109 : decode cX9_feed 109 = .ok (.iload 7, 2) := by decide +kernel
theorem dX9_feed_111 : decode cX9_feed 111 = .ok (.iload_n 1, 1) := by decide +kernel
theorem dX9_feed_112 : decode cX9_feed 112 = .ok (.if_icmp .ge 23, 3) := by decide +kernel
theorem dX9_feed_115 : decode cX9_feed 115 = .ok (.aload_n 0, 1) := by decide +kernel
theorem dX9_feed_116 : decode cX9_feed 116 = .ok (.getfield 54, 3) := by decide +kernel
theorem dX9_feed_119 : decode cX9_feed 119 = .ok (.aload_n 0, 1) := by decide +kernel
theorem dX9_feed_120 : decode cX9_feed 120 = .ok (.getfield 31, 3) := by decide +kernel
theorem dX9_feed_123 : decode cX9_feed 123 = .ok (.iload 7, 2) := by decide +kernel
theorem dX9_feed_125 : decode cX9_feed 125 = .ok (.iaload, 1) := by decide +kernel
theorem dX9_feed_126 : decode cX9_feed 126 = .ok (.invokevirtual 102, 3) := by decide +kernel
theorem dX9_feed_129 : decode cX9_feed 129 = .ok (.iinc 7 1, 3) := by decide +kernel
theorem dX9_feed_132 : decode cX9_feed 132 = .ok (.goto (-23), 3) := by decide +kernel
theorem dX9_feed_135 : decode cX9_feed 135 = .ok (.aload_n 0, 1) := by decide +kernel
theorem dX9_feed_136 : decode cX9_feed 136 = .ok (.getfield 54, 3) := by decide +kernel
theorem dX9_feed_139 : decode cX9_feed 139 = .ok (.invokevirtual 98, 3) := by decide +kernel
theorem dX9_feed_142 : decode cX9_feed 142 = .ok (.ireturn, 1) := by decide +kernel
theorem dX9_text_0 : decode cX9_text 0 = .ok (.iload_n 1, 1) := by decide +kernel
theorem dX9_text_1 : decode cX9_text 1 = .ok (.invokestatic 106, 3) := by decide +kernel
theorem dX9_text_4 : decode cX9_text 4 = .ok (.ifCond .ne 6, 3) := by decide +kernel
theorem dX9_text_7 : decode cX9_text 7 = .ok (.bipush (-2), 2) := by decide +kernel
theorem dX9_text_9 : decode cX9_text 9 = .ok (.ireturn, 1) := by decide +kernel
theorem dX9_text_10 : decode cX9_text 10 = .ok (.aload_n 0, 1) := by decide +kernel
theorem dX9_text_11 : decode cX9_text 11 = .ok (.getfield 54, 3) := by decide +kernel
theorem dX9_text_14 : decode cX9_text 14 = .ok (.invokevirtual 109, 3) := by decide +kernel
theorem dX9_text_17 : decode cX9_text 17 = .ok (.istore_n 2, 1) := by decide +kernel
theorem dX9_text_18 : decode cX9_text 18 = .ok (.iload_n 2, 1) := by decide +kernel
theorem dX9_text_19 : decode cX9_text 19 = .ok (.ifCond .ge 14, 3) := by decide +kernel
theorem dX9_text_22 : decode cX9_text 22 = .ok (.bipush (-100), 2) := by decide +kernel
theorem dX9_text_24 : decode cX9_text 24 = .ok (.aload_n 0, 1) := by decide +kernel
theorem dX9_text_25 : decode cX9_text 25 = .ok (.getfield 54, 3) := by decide +kernel
theorem dX9_text_28 : decode cX9_text 28 = .ok (.invokevirtual 112, 3) := by decide +kernel
theorem dX9_text_31 : decode cX9_text 31 = .ok (.isub, 1) := by decide +kernel
theorem dX9_text_32 : decode cX9_text 32 = .ok (.ireturn, 1) := by decide +kernel
theorem dX9_text_33 : decode cX9_text 33 = .ok (.aload_n 0, 1) := by decide +kernel
theorem dX9_text_34 : decode cX9_text 34 = .ok (.getfield 45, 3) := by decide +kernel
theorem dX9_text_37 : decode cX9_text 37 = .ok (.iload_n 2, 1) := by decide +kernel
theorem dX9_text_38 : decode cX9_text 38 = .ok (.aload_n 0, 1) := by decide +kernel
theorem dX9_text_39 : decode cX9_text 39 = .ok (.getfield 11, 3) := by decide +kernel
theorem dX9_text_42 : decode cX9_text 42 = .ok (.iload_n 1, 1) := by decide +kernel
theorem dX9_text_43 : decode cX9_text 43 = .ok (.aaload, 1) := by decide +kernel
theorem dX9_text_44 : decode cX9_text 44 = .ok (.invokevirtual 115, 3) := by decide +kernel
theorem dX9_text_47 : decode cX9_text 47 = .ok (.aload_n 0, 1) := by decide +kernel
theorem dX9_text_48 : decode cX9_text 48 = .ok (.getfield 11, 3) := by decide +kernel
theorem dX9_text_51 : decode cX9_text 51 = .ok (.iload_n 1, 1) := by decide +kernel
theorem dX9_text_52 : decode cX9_text 52 = .ok (.aaload, 1) := by decide +kernel
theorem dX9_text_53 : decode cX9_text 53 = .ok (.invokevirtual 119, 3) := by decide +kernel
theorem dX9_text_56 : decode cX9_text 56 = .ok (.ireturn, 1) := by decide +kernel
theorem dX9_let_0 : decode cX9_let 0 = .ok (.iload_n 1, 1) := by decide +kernel
theorem dX9_let_1 : decode cX9_let 1 = .ok (.invokestatic 122, 3) := by decide +kernel
theorem dX9_let_4 : decode cX9_let 4 = .ok (.ifCond .ne 6, 3) := by decide +kernel
theorem dX9_let_7 : decode cX9_let 7 = .ok (.bipush (-2), 2) := by decide +kernel
theorem dX9_let_9 : decode cX9_let 9 = .ok (.ireturn, 1) := by decide +kernel
theorem dX9_let_10 : decode cX9_let 10 = .ok (.aload_n 0, 1) := by decide +kernel
theorem dX9_let_11 : decode cX9_let 11 = .ok (.getfield 18, 3) := by decide +kernel
theorem dX9_let_14 : decode cX9_let 14 = .ok (.iload_n 1, 1) := by decide +kernel
theorem dX9_let_15 : decode cX9_let 15 = .ok (.iaload, 1) := by decide +kernel
theorem dX9_let_16 : decode cX9_let 16 = .ok (.istore_n 3, 1) := by decide +kernel
theorem dX9_let_17 : decode cX9_let 17 = .ok (.aload_n 0, 1) := by decide +kernel
theorem dX9_let_18 : decode cX9_let 18 = .ok (.getfield 18, 3) := by decide +kernel
theorem dX9_let_21 : decode cX9_let 21 = .ok (.iload_n 1, 1) := by decide +kernel
theorem dX9_let_22 : decode cX9_let 22 = .ok (.iload_n 2, 1) := by decide +kernel
theorem dX9_let_23 : decode cX9_let 23 = .ok (.iastore, 1) := by decide +kernel
theorem dX9_let_24 : decode cX9_let 24 = .ok (.iload_n 3, 1) := by decide +kernel
theorem dX9_let_25 : decode cX9_let 25 = .ok (.ireturn, 1) := by decide +kernel
theorem dX9_turn_0 : decode cX9_turn 0 = .ok (.iload_n 2, 1) := by decide +kernel
theorem dX9_turn_1 : decode cX9_turn 1 = .ok (.bipush 20, 2) := by decide +kernel
theorem dX9_turn_3 : decode cX9_turn 3 = .ok (.if_icmp .lt 7, 3) := by decide +kernel
theorem dX9_turn_6 : decode cX9_turn 6 = .ok (.iconst 1, 1) := by decide +kernel
theorem dX9_turn_7 : decode cX9_turn 7 = .ok (.goto 4, 3) := by decide +kernel
theorem dX9_turn_10 : decode cX9_turn 10 = .ok (.iconst 0, 1) := by decide +kernel
theorem dX9_turn_11 : decode cX9_turn 11 = .ok (.istore 4, 2) := by decide +kernel
theorem dX9_turn_13 : decode cX9_turn 13 = .ok (.iload_n 1, 1) := by decide +kernel
theorem dX9_turn_14 : decode cX9_turn 14 = .ok (.invokestatic 106, 3) := by decide +kernel
theorem dX9_turn_17 : decode cX9_turn 17 = .ok (.ifCond .eq 22, 3) := by decide +kernel
theorem dX9_turn_20 : decode cX9_turn 20 = .ok (.iload_n 2, 1) := by decide +kernel
theorem dX9_turn_21 : decode cX9_turn 21 = .ok (.invokestatic 125, 3) := by decide +kernel
theorem dX9_turn_24 : decode cX9_turn 24 = .ok (.ifCond .eq 15, 3) := by decide +kernel
theorem dX9_turn_27 : decode cX9_turn 27 = .ok (.iload 4, 2) := by decide +kernel
theorem dX9_turn_29 : decode cX9_turn 29 = .ok (.ifCond .eq 13, 3) := by decide +kernel
theorem dX9_turn_32 : decode cX9_turn 32 = .ok (.iload_n 3, 1) := by decide +kernel
theorem dX9_turn_33 : decode cX9_turn 33 = .ok (.invokestatic 106, 3) := by decide +kernel
theorem dX9_turn_36 : decode cX9_turn 36 = .ok (.ifCond .ne 6, 3) := by decide +kernel
theorem dX9_turn_39 : decode cX9_turn 39 = .ok (.bipush (-2), 2) := by decide +kernel
theorem dX9_turn_41 : decode cX9_turn 41 = .ok (.ireturn, 1) := by decide +kernel
theorem dX9_turn_42 : decode cX9_turn 42 = .ok (.aload_n 0, 1) := by decide +kernel
theorem dX9_turn_43 : decode cX9_turn 43 = .ok (.getfield 11, 3) := by decide +kernel
theorem dX9_turn_46 : decode cX9_turn 46 = .ok (.iload_n 1, 1) := by decide +kernel
theorem dX9_turn_47 : decode cX9_turn 47 = .ok (.aaload, 1) := by decide +kernel
theorem dX9_turn_48 : decode cX9_turn 48 = .ok (.astore 5, 2) := by decide +kernel
theorem dX9_turn_50 : decode cX9_turn 50 = .ok (.iload_n 2, 1) := by decide +kernel
theorem dX9_turn_51 : decode cX9_turn 51 = .ok (.ifCond .eq 13, 3) := by decide +kernel
theorem dX9_turn_54 : decode cX9_turn 54 = .ok (.iload_n 2, 1) := by decide +kernel
theorem dX9_turn_55 : decode cX9_turn 55 = .ok (.bipush 30, 2) := by decide +kernel
theorem dX9_turn_57 : decode cX9_turn 57 = .ok (.if_icmp .eq 7, 3) := by decide +kernel
theorem dX9_turn_60 : decode cX9_turn 60 = .ok (.iconst 1, 1) := by decide +kernel
theorem dX9_turn_61 : decode cX9_turn 61 = .ok (.goto 4, 3) := by decide +kernel
theorem dX9_turn_64 : decode cX9_turn 64 = .ok (.iconst 0, 1) := by decide +kernel
theorem dX9_turn_65 : decode cX9_turn 65 = .ok (.istore 6, 2) := by decide +kernel
theorem dX9_turn_67 : decode cX9_turn 67 = .ok (.iload 6, 2) := by decide +kernel
theorem dX9_turn_69 : decode cX9_turn 69 = .ok (.ifCond .eq 11, 3) := by decide +kernel
theorem dX9_turn_72 : decode cX9_turn 72 = .ok (.aload 5, 2) := by decide +kernel
theorem dX9_turn_74 : decode cX9_turn 74 = .ok (.invokevirtual 128, 3) := by decide +kernel
theorem dX9_turn_77 : decode cX9_turn 77 = .ok (.ifCond .ne 20, 3) := by decide +kernel
theorem dX9_turn_80 : decode cX9_turn 80 = .ok (.iload 4, 2) := by decide +kernel
theorem dX9_turn_82 : decode cX9_turn 82 = .ok (.ifCond .eq 18, 3) := by decide +kernel
theorem dX9_turn_85 : decode cX9_turn 85 = .ok (.aload_n 0, 1) := by decide +kernel
theorem dX9_turn_86 : decode cX9_turn 86 = .ok (.getfield 11, 3) := by decide +kernel
theorem dX9_turn_89 : decode cX9_turn 89 = .ok (.iload_n 3, 1) := by decide +kernel
theorem dX9_turn_90 : decode cX9_turn 90 = .ok (.aaload, 1) := by decide +kernel
theorem dX9_turn_91 : decode cX9_turn 91 = .ok (.invokevirtual 128, 3) := by decide +kernel
theorem dX9_turn_94 : decode cX9_turn 94 = .ok (.ifCond .eq 6, 3) := by decide +kernel
theorem dX9_turn_97 : decode cX9_turn 97 = .ok (.bipush (-3), 2) := by decide +kernel
theorem dX9_turn_99 : decode cX9_turn 99 = .ok (.ireturn, 1) := by decide +kernel
theorem dX9_turn_100 : decode cX9_turn 100 = .ok (.iload_n 2, 1) := by decide +kernel
theorem dX9_turn_101 : decode cX9_turn 101 = .ok (.ifCond .ne 11, 3) := by decide +kernel
theorem dX9_turn_104 : decode cX9_turn 104 = .ok (.aload 5, 2) := by decide +kernel
theorem dX9_turn_106 : decode cX9_turn 106 = .ok (.invokevirtual 132, 3) := by decide +kernel
theorem dX9_turn_109 : decode cX9_turn 109 = .ok (.goto 62, 3) := by decide +kernel
theorem dX9_turn_112 : decode cX9_turn 112 = .ok (.iload_n 2, 1) := by decide +kernel
theorem dX9_turn_113 : decode cX9_turn 113 = .ok (.bipush 30, 2) := by decide +kernel
theorem dX9_turn_115 : decode cX9_turn 115 = .ok (.if_icmp .ne 17, 3) := by decide +kernel
theorem dX9_turn_118 : decode cX9_turn 118 = .ok (.aload 5, 2) := by decide +kernel
theorem dX9_turn_120 : decode cX9_turn 120 = .ok (.aload_n 0, 1) := by decide +kernel
theorem dX9_turn_121 : decode cX9_turn 121 = .ok (.getfield 11, 3) := by decide +kernel
theorem dX9_turn_124 : decode cX9_turn 124 = .ok (.iload_n 3, 1) := by decide +kernel
theorem dX9_turn_125 : decode cX9_turn 125 = .ok (.aaload, 1) := by decide +kernel
theorem dX9_turn_126 : decode cX9_turn 126 = .ok (.invokevirtual 135, 3) := by decide +kernel
theorem dX9_turn_129 : decode cX9_turn 129 = .ok (.goto 42, 3) := by decide +kernel
theorem dX9_turn_132 : decode cX9_turn 132 = .ok (.aload_n 0, 1) := by decide +kernel
theorem dX9_turn_133 : decode cX9_turn 133 = .ok (.aload 5, 2) := by decide +kernel
theorem dX9_turn_135 : decode cX9_turn 135 = .ok (.iload_n 2, 1) := by decide +kernel
theorem dX9_turn_136 : decode cX9_turn 136 = .ok (.iload_n 3, 1) := by decide +kernel
theorem dX9_turn_137 : decode cX9_turn 137 = .ok (.invokevirtual 139, 3) := by decide +kernel
theorem dX9_turn_140 : decode cX9_turn 140 = .ok (.istore 7, 2) := by decide +kernel
theorem dX9_turn_142 : decode cX9_turn 142 = .ok (.aload_n 0, 1) := by decide +kernel
theorem dX9_turn_143 : decode cX9_turn 143 = .ok (.getfield 45, 3) := by decide +kernel
theorem dX9_turn_146 : decode cX9_turn 146 = .ok (.iload 7, 2) := by decide +kernel
theorem dX9_turn_148 : decode cX9_turn 148 = .ok (.invokevirtual 143, 3) := by decide +kernel
theorem dX9_turn_151 : decode cX9_turn 151 = .ok (.sipush 200, 3) := by decide +kernel
theorem dX9_turn_154 : decode cX9_turn 154 = .ok (.if_icmp .le 6, 3) := by decide +kernel
theorem dX9_turn_157 : decode cX9_turn 157 = .ok (.bipush (-4), 2) := by decide +kernel
theorem dX9_turn_159 : decode cX9_turn 159 = .ok (.ireturn, 1) := by decide +kernel
theorem dX9_turn_160 : decode cX9_turn 160 = .ok (.aload_n 0, 1) := by decide +kernel
theorem dX9_turn_161 : decode cX9_turn 161 = .ok (.getfield 45, 3) := by decide +kernel
theorem dX9_turn_164 : decode cX9_turn 164 = .ok (.iload 7, 2) := by decide +kernel
theorem dX9_turn_166 : decode cX9_turn 166 = .ok (.aload 5, 2) := by decide +kernel
theorem dX9_turn_168 : decode cX9_turn 168 = .ok (.invokevirtual 115, 3) := by decide +kernel
theorem dX9_turn_171 : decode cX9_turn 171 = .ok (.aload 5, 2) := by decide +kernel
theorem dX9_turn_173 : decode cX9_turn 173 = .ok (.invokevirtual 119, 3) := by decide +kernel
theorem dX9_turn_176 : decode cX9_turn 176 = .ok (.ireturn, 1) := by decide +kernel
theorem dX9_node_0 : decode cX9_node 0 = .ok (.aload_n 0, 1) := by decide +kernel
theorem dX9_node_1 : decode cX9_node 1 = .ok (.iload_n 1, 1) := by decide +kernel
theorem dX9_node_2 : decode cX9_node 2 = .ok (.iload_n 2, 1) := by decide +kernel
theorem dX9_node_3 : decode cX9_node 3 = .ok (.iload_n 3, 1) := by decide +kernel
theorem dX9_node_4 : decode cX9_node 4 = .ok (.ifCond .lt 12, 3) := by decide +kernel
theorem dX9_node_7 : decode cX9_node 7 = .ok (.iload_n 3, 1) := by decide +kernel
theorem dX9_node_8 : decode cX9_node 8 = .ok (.iconst 4, 1) := by decide +kernel
theorem dX9_node_9 : decode cX9_node 9 = .ok (.if_icmp .gt 7, 3) := by decide +kernel
theorem dX9_node_12 : decode cX9_node 12 = .ok (.iconst 1, 1) := by decide +kernel
theorem dX9_node_13 : decode cX9_node 13 = .ok (.goto 4, 3) := by decide +kernel
theorem dX9_node_16 : decode cX9_node 16 = .ok (.iconst 0, 1) := by decide +kernel
theorem dX9_node_17 : decode cX9_node 17 = .ok (.invokevirtual 147, 3) := by decide +kernel
theorem dX9_node_20 : decode cX9_node 20 = .ok (.istore 4, 2) := by decide +kernel
theorem dX9_node_22 : decode cX9_node 22 = .ok (.iload 4, 2) := by decide +kernel
theorem dX9_node_24 : decode cX9_node 24 = .ok (.ifCond .eq 6, 3) := by decide +kernel
theorem dX9_node_27 : decode cX9_node 27 = .ok (.iload 4, 2) := by decide +kernel
theorem dX9_node_29 : decode cX9_node 29 = .ok (.ireturn, 1) := by decide +kernel
theorem dX9_node_30 : decode cX9_node 30 = .ok (.aload_n 0, 1) := by decide +kernel
theorem dX9_node_31 : decode cX9_node 31 = .ok (.getfield 11, 3) := by decide +kernel
theorem dX9_node_34 : decode cX9_node 34 = .ok (.iload_n 1, 1) := by decide +kernel
theorem dX9_node_35 : decode cX9_node 35 = .ok (.aaload, 1) := by decide +kernel
theorem dX9_node_36 : decode cX9_node 36 = .ok (.astore 5, 2) := by decide +kernel
theorem dX9_node_38 : decode cX9_node 38 = .ok (.iload_n 3, 1) := by decide +kernel
theorem dX9_node_39 : decode cX9_node 39 = .ok (.tableswitch 101 0 3 #[29, 36, 57, 79], 29) := by decide +kernel
theorem dX9_node_68 : decode cX9_node 68 = .ok (.aload 5, 2) := by decide +kernel
theorem dX9_node_70 : decode cX9_node 70 = .ok (.iload_n 2, 1) := by decide +kernel
theorem dX9_node_71 : decode cX9_node 71 = .ok (.invokevirtual 151, 3) := by decide +kernel
theorem dX9_node_74 : decode cX9_node 74 = .ok (.ireturn, 1) := by decide +kernel
theorem dX9_node_75 : decode cX9_node 75 = .ok (.aload 5, 2) := by decide +kernel
theorem dX9_node_77 : decode cX9_node 77 = .ok (.iload_n 2, 1) := by decide +kernel
theorem dX9_node_78 : decode cX9_node 78 = .ok (.invokevirtual 151, 3) := by decide +kernel
theorem dX9_node_81 : decode cX9_node 81 = .ok (.ifCond .ne 13, 3) := by decide +kernel
theorem dX9_node_84 : decode cX9_node 84 = .ok (.aload 5, 2) := by decide +kernel
theorem dX9_node_86 : decode cX9_node 86 = .ok (.iload_n 2, 1) := by decide +kernel
theorem dX9_node_87 : decode cX9_node 87 = .ok (.invokevirtual 154, 3) := by decide +kernel
theorem dX9_node_90 : decode cX9_node 90 = .ok (.l2i, 1) := by decide +kernel
theorem dX9_node_91 : decode cX9_node 91 = .ok (.goto 4, 3) := by decide +kernel
theorem dX9_node_94 : decode cX9_node 94 = .ok (.iconst (-1), 1) := by decide +kernel
theorem dX9_node_95 : decode cX9_node 95 = .ok (.ireturn, 1) := by decide +kernel
theorem dX9_node_96 : decode cX9_node 96 = .ok (.aload 5, 2) := by decide +kernel
theorem dX9_node_98 : decode cX9_node 98 = .ok (.iload_n 2, 1) := by decide +kernel
theorem dX9_node_99 : decode cX9_node 99 = .ok (.invokevirtual 151, 3) := by decide +kernel
theorem dX9_node_102 : decode cX9_node 102 = .ok (.iconst 1, 1) := by decide +kernel
theorem dX9_node_103 : decode cX9_node 103 = .ok (.if_icmp .ne 13, 3) := by decide +kernel
theorem dX9_node_106 : decode cX9_node 106 = .ok (.aload 5, 2) := by decide +kernel
theorem dX9_node_108 : decode cX9_node 108 = .ok (.iload_n 2, 1) := by decide +kernel
theorem dX9_node_109 : decode cX9_node 109 = .ok (.invokevirtual 154, 3) := by decide +kernel
theorem dX9_node_112 : decode cX9_node 112 = .ok (.l2i, 1) := by decide +kernel
theorem dX9_node_113 : decode cX9_node 113 = .ok (.goto 4, 3) := by decide +kernel
theorem dX9_node_116 : decode cX9_node 116 = .ok (.iconst (-1), 1) := by decide +kernel
theorem dX9_node_117 : decode cX9_node 117 = .ok (.ireturn, 1) := by decide +kernel
theorem dX9_node_118 : decode cX9_node 118 = .ok (.aload 5, 2) := by decide +kernel
theorem dX9_node_120 : decode cX9_node 120 = .ok (.iload_n 2, 1) := by decide +kernel
theorem dX9_node_121 : decode cX9_node 121 = .ok (.invokevirtual 151, 3) := by decide +kernel
theorem dX9_node_124 : decode cX9_node 124 = .ok (.iconst 5, 1) := by decide +kernel
theorem dX9_node_125 : decode cX9_node 125 = .ok (.if_icmp .ne 13, 3) := by decide +kernel
theorem dX9_node_128 : decode cX9_node 128 = .ok (.aload 5, 2) := by decide +kernel
theorem dX9_node_130 : decode cX9_node 130 = .ok (.iload_n 2, 1) := by decide +kernel
theorem dX9_node_131 : decode cX9_node 131 = .ok (.invokevirtual 154, 3) := by decide +kernel
theorem dX9_node_134 : decode cX9_node 134 = .ok (.l2i, 1) := by decide +kernel
theorem dX9_node_135 : decode cX9_node 135 = .ok (.goto 4, 3) := by decide +kernel
theorem dX9_node_138 : decode cX9_node 138 = .ok (.iconst (-1), 1) := by decide +kernel
theorem dX9_node_139 : decode cX9_node 139 = .ok (.ireturn, 1) := by decide +kernel
theorem dX9_node_140 : decode cX9_node 140 = .ok (.aload 5, 2) := by decide +kernel
theorem dX9_node_142 : decode cX9_node 142 = .ok (.iload_n 2, 1) := by decide +kernel
theorem dX9_node_143 : decode cX9_node 143 = .ok (.invokevirtual 158, 3) := by decide +kernel
theorem dX9_node_146 : decode cX9_node 146 = .ok (.ireturn, 1) := by decide +kernel
theorem dX9_taken_0 : decode cX9_taken 0 = .ok (.aload_n 0, 1) := by decide +kernel
theorem dX9_taken_1 : decode cX9_taken 1 = .ok (.iload_n 1, 1) := by decide +kernel
theorem dX9_taken_2 : decode cX9_taken 2 = .ok (.iload_n 2, 1) := by decide +kernel
theorem dX9_taken_3 : decode cX9_taken 3 = .ok (.iload_n 3, 1) := by decide +kernel
theorem dX9_taken_4 : decode cX9_taken 4 = .ok (.invokestatic 159, 3) := by decide +kernel
theorem dX9_taken_7 : decode cX9_taken 7 = .ok (.invokevirtual 147, 3) := by decide +kernel
theorem dX9_taken_10 : decode cX9_taken 10 = .ok (.istore 4, 2) := by decide +kernel
theorem dX9_taken_12 : decode cX9_taken 12 = .ok (.iload 4, 2) := by decide +kernel
theorem dX9_taken_14 : decode cX9_taken 14 = .ok (.ifCond .eq 6, 3) := by decide +kernel
theorem dX9_taken_17 : decode cX9_taken 17 = .ok (.iload 4, 2) := by decide +kernel
theorem dX9_taken_19 : decode cX9_taken 19 = .ok (.ireturn, 1) := by decide +kernel
theorem dX9_taken_20 : decode cX9_taken 20 = .ok (.aload_n 0, 1) := by decide +kernel
theorem dX9_taken_21 : decode cX9_taken 21 = .ok (.getfield 11, 3) := by decide +kernel
theorem dX9_taken_24 : decode cX9_taken 24 = .ok (.iload_n 1, 1) := by decide +kernel
theorem dX9_taken_25 : decode cX9_taken 25 = .ok (.aaload, 1) := by decide +kernel
theorem dX9_taken_26 : decode cX9_taken 26 = .ok (.astore 5, 2) := by decide +kernel
theorem dX9_taken_28 : decode cX9_taken 28 = .ok (.aload 5, 2) := by decide +kernel
theorem dX9_taken_30 : decode cX9_taken 30 = .ok (.iload_n 2, 1) := by decide +kernel
theorem dX9_taken_31 : decode cX9_taken 31 = .ok (.invokevirtual 151, 3) := by decide +kernel
theorem dX9_taken_34 : decode cX9_taken 34 = .ok (.iload_n 3, 1) := by decide +kernel
theorem dX9_taken_35 : decode cX9_taken 35 = .ok (.if_icmp .ne 10, 3) := by decide +kernel
theorem dX9_taken_38 : decode cX9_taken 38 = .ok (.aload 5, 2) := by decide +kernel
theorem dX9_taken_40 : decode cX9_taken 40 = .ok (.iload_n 2, 1) := by decide +kernel
theorem dX9_taken_41 : decode cX9_taken 41 = .ok (.invokevirtual 158, 3) := by decide +kernel
theorem dX9_taken_44 : decode cX9_taken 44 = .ok (.ireturn, 1) := by decide +kernel
theorem dX9_taken_45 : decode cX9_taken 45 = .ok (.aload 5, 2) := by decide +kernel
theorem dX9_taken_47 : decode cX9_taken 47 = .ok (.iload_n 2, 1) := by decide +kernel
theorem dX9_taken_48 : decode cX9_taken 48 = .ok (.invokevirtual 151, 3) := by decide +kernel
theorem dX9_taken_51 : decode cX9_taken 51 = .ok (.bipush 7, 2) := by decide +kernel
theorem dX9_taken_53 : decode cX9_taken 53 = .ok (.if_icmp .ne 25, 3) := by decide +kernel
theorem dX9_taken_56 : decode cX9_taken 56 = .ok (.iload_n 3, 1) := by decide +kernel
theorem dX9_taken_57 : decode cX9_taken 57 = .ok (.iconst 4, 1) := by decide +kernel
theorem dX9_taken_58 : decode cX9_taken 58 = .ok (.if_icmp .ne 20, 3) := by decide +kernel
theorem dX9_taken_61 : decode cX9_taken 61 = .ok (.iconst 1, 1) := by decide +kernel
theorem dX9_taken_62 : decode cX9_taken 62 = .ok (.iconst 2, 1) := by decide +kernel
theorem dX9_taken_63 : decode cX9_taken 63 = .ok (.aload 5, 2) := by decide +kernel
theorem dX9_taken_65 : decode cX9_taken 65 = .ok (.aload 5, 2) := by decide +kernel
theorem dX9_taken_67 : decode cX9_taken 67 = .ok (.iload_n 2, 1) := by decide +kernel
theorem dX9_taken_68 : decode cX9_taken 68 = .ok (.iconst 0, 1) := by decide +kernel
theorem dX9_taken_69 : decode cX9_taken 69 = .ok (.invokevirtual 162, 3) := by decide +kernel
theorem dX9_taken_72 : decode cX9_taken 72 = .ok (.invokevirtual 158, 3) := by decide +kernel
theorem dX9_taken_75 : decode cX9_taken 75 = .ok (.imul, 1) := by decide +kernel
theorem dX9_taken_76 : decode cX9_taken 76 = .ok (.iadd, 1) := by decide +kernel
theorem dX9_taken_77 : decode cX9_taken 77 = .ok (.ireturn, 1) := by decide +kernel
theorem dX9_taken_78 : decode cX9_taken 78 = .ok (.bipush (-13), 2) := by decide +kernel
theorem dX9_taken_80 : decode cX9_taken 80 = .ok (.ireturn, 1) := by decide +kernel
theorem dX9_worth_0 : decode cX9_worth 0 = .ok (.aload_n 0, 1) := by decide +kernel
theorem dX9_worth_1 : decode cX9_worth 1 = .ok (.iload_n 1, 1) := by decide +kernel
theorem dX9_worth_2 : decode cX9_worth 2 = .ok (.iconst 1, 1) := by decide +kernel
theorem dX9_worth_3 : decode cX9_worth 3 = .ok (.invokevirtual 166, 3) := by decide +kernel
theorem dX9_worth_6 : decode cX9_worth 6 = .ok (.istore_n 2, 1) := by decide +kernel
theorem dX9_worth_7 : decode cX9_worth 7 = .ok (.iload_n 2, 1) := by decide +kernel
theorem dX9_worth_8 : decode cX9_worth 8 = .ok (.ifCond .eq 12, 3) := by decide +kernel
theorem dX9_worth_11 : decode cX9_worth 11 = .ok (.iload_n 2, 1) := by decide +kernel
theorem dX9_worth_12 : decode cX9_worth 12 = .ok (.i2l, 1) := by decide +kernel
theorem dX9_worth_13 : decode cX9_worth 13 = .ok (.ldc2_w 170, 3) := by decide +kernel
theorem dX9_worth_16 : decode cX9_worth 16 = .ok (.lsub, 1) := by decide +kernel
theorem dX9_worth_17 : decode cX9_worth 17 = .ok (.goto 20, 3) := by decide +kernel
theorem dX9_worth_20 : decode cX9_worth 20 = .ok (.aload_n 0, 1) := by decide +kernel
theorem dX9_worth_21 : decode cX9_worth 21 = .ok (.getfield 68, 3) := by decide +kernel
theorem dX9_worth_24 : decode cX9_worth 24 = .ok (.aload_n 0, 1) := by decide +kernel
theorem dX9_worth_25 : decode cX9_worth 25 = .ok (.getfield 11, 3) := by decide +kernel
theorem dX9_worth_28 : decode cX9_worth 28 = .ok (.iload_n 1, 1) := by decide +kernel
theorem dX9_worth_29 : decode cX9_worth 29 = .ok (.aaload, 1) := by decide +kernel
theorem dX9_worth_30 : decode cX9_worth 30 = .ok (.aload_n 0, 1) := by decide +kernel
theorem dX9_worth_31 : decode cX9_worth 31 = .ok (.getfield 18, 3) := by decide +kernel
theorem dX9_worth_34 : decode cX9_worth 34 = .ok (.invokevirtual 172, 3) := by decide +kernel
theorem dX9_worth_37 : decode cX9_worth 37 = .ok (.lreturn, 1) := by decide +kernel
theorem dX9_met_0 : decode cX9_met 0 = .ok (.aload_n 0, 1) := by decide +kernel
theorem dX9_met_1 : decode cX9_met 1 = .ok (.iload_n 1, 1) := by decide +kernel
theorem dX9_met_2 : decode cX9_met 2 = .ok (.iload_n 2, 1) := by decide +kernel
theorem dX9_met_3 : decode cX9_met 3 = .ok (.ifCond .lt 13, 3) := by decide +kernel
theorem dX9_met_6 : decode cX9_met 6 = .ok (.iload_n 2, 1) := by decide +kernel
theorem dX9_met_7 : decode cX9_met 7 = .ok (.bipush 8, 2) := by decide +kernel
theorem dX9_met_9 : decode cX9_met 9 = .ok (.if_icmp .gt 7, 3) := by decide +kernel
theorem dX9_met_12 : decode cX9_met 12 = .ok (.iconst 1, 1) := by decide +kernel
theorem dX9_met_13 : decode cX9_met 13 = .ok (.goto 4, 3) := by decide +kernel
theorem dX9_met_16 : decode cX9_met 16 = .ok (.iconst 0, 1) := by decide +kernel
theorem dX9_met_17 : decode cX9_met 17 = .ok (.invokevirtual 166, 3) := by decide +kernel
theorem dX9_met_20 : decode cX9_met 20 = .ok (.istore_n 3, 1) := by decide +kernel
theorem dX9_met_21 : decode cX9_met 21 = .ok (.iload_n 3, 1) := by decide +kernel
theorem dX9_met_22 : decode cX9_met 22 = .ok (.ifCond .eq 7, 3) := by decide +kernel
theorem dX9_met_25 : decode cX9_met 25 = .ok (.iload_n 3, 1) := by decide +kernel
theorem dX9_met_26 : decode cX9_met 26 = .ok (.goto 21, 3) := by decide +kernel
theorem dX9_met_29 : decode cX9_met 29 = .ok (.aload_n 0, 1) := by decide +kernel
theorem dX9_met_30 : decode cX9_met 30 = .ok (.getfield 68, 3) := by decide +kernel
theorem dX9_met_33 : decode cX9_met 33 = .ok (.aload_n 0, 1) := by decide +kernel
theorem dX9_met_34 : decode cX9_met 34 = .ok (.getfield 11, 3) := by decide +kernel
theorem dX9_met_37 : decode cX9_met 37 = .ok (.iload_n 1, 1) := by decide +kernel
theorem dX9_met_38 : decode cX9_met 38 = .ok (.aaload, 1) := by decide +kernel
theorem dX9_met_39 : decode cX9_met 39 = .ok (.aload_n 0, 1) := by decide +kernel
theorem dX9_met_40 : decode cX9_met 40 = .ok (.getfield 18, 3) := by decide +kernel
theorem dX9_met_43 : decode cX9_met 43 = .ok (.iload_n 2, 1) := by decide +kernel
theorem dX9_met_44 : decode cX9_met 44 = .ok (.invokevirtual 176, 3) := by decide +kernel
theorem dX9_met_47 : decode cX9_met 47 = .ok (.ireturn, 1) := by decide +kernel
theorem dX9_purse_0 : decode cX9_purse 0 = .ok (.aload_n 0, 1) := by decide +kernel
theorem dX9_purse_1 : decode cX9_purse 1 = .ok (.iload_n 1, 1) := by decide +kernel
theorem dX9_purse_2 : decode cX9_purse 2 = .ok (.iload_n 2, 1) := by decide +kernel
theorem dX9_purse_3 : decode cX9_purse 3 = .ok (.ifCond .lt 14, 3) := by decide +kernel
theorem dX9_purse_6 : decode cX9_purse 6 = .ok (.iload_n 2, 1) := by decide +kernel
theorem dX9_purse_7 : decode cX9_purse 7 = .ok (.sipush 9999, 3) := by decide +kernel
theorem dX9_purse_10 : decode cX9_purse 10 = .ok (.if_icmp .gt 7, 3) := by decide +kernel
theorem dX9_purse_13 : decode cX9_purse 13 = .ok (.iconst 1, 1) := by decide +kernel
theorem dX9_purse_14 : decode cX9_purse 14 = .ok (.goto 4, 3) := by decide +kernel
theorem dX9_purse_17 : decode cX9_purse 17 = .ok (.iconst 0, 1) := by decide +kernel
theorem dX9_purse_18 : decode cX9_purse 18 = .ok (.invokevirtual 166, 3) := by decide +kernel
theorem dX9_purse_21 : decode cX9_purse 21 = .ok (.istore_n 3, 1) := by decide +kernel
theorem dX9_purse_22 : decode cX9_purse 22 = .ok (.iload_n 3, 1) := by decide +kernel
theorem dX9_purse_23 : decode cX9_purse 23 = .ok (.ifCond .eq 10, 3) := by decide +kernel
theorem dX9_purse_26 : decode cX9_purse 26 = .ok (.iload_n 3, 1) := by decide +kernel
theorem dX9_purse_27 : decode cX9_purse 27 = .ok (.i2l, 1) := by decide +kernel
theorem dX9_purse_28 : decode cX9_purse 28 = .ok (.ldc2_w 170, 3) := by decide +kernel
theorem dX9_purse_31 : decode cX9_purse 31 = .ok (.lsub, 1) := by decide +kernel
theorem dX9_purse_32 : decode cX9_purse 32 = .ok (.lreturn, 1) := by decide +kernel
theorem dX9_purse_33 : decode cX9_purse 33 = .ok (.aload_n 0, 1) := by decide +kernel
theorem dX9_purse_34 : decode cX9_purse 34 = .ok (.getfield 68, 3) := by decide +kernel
theorem dX9_purse_37 : decode cX9_purse 37 = .ok (.aload_n 0, 1) := by decide +kernel
theorem dX9_purse_38 : decode cX9_purse 38 = .ok (.getfield 11, 3) := by decide +kernel
theorem dX9_purse_41 : decode cX9_purse 41 = .ok (.iload_n 1, 1) := by decide +kernel
theorem dX9_purse_42 : decode cX9_purse 42 = .ok (.aaload, 1) := by decide +kernel
theorem dX9_purse_43 : decode cX9_purse 43 = .ok (.aload_n 0, 1) := by decide +kernel
theorem dX9_purse_44 : decode cX9_purse 44 = .ok (.getfield 18, 3) := by decide +kernel
theorem dX9_purse_47 : decode cX9_purse 47 = .ok (.bipush 8, 2) := by decide +kernel
theorem dX9_purse_49 : decode cX9_purse 49 = .ok (.invokevirtual 176, 3) := by decide +kernel
theorem dX9_purse_52 : decode cX9_purse 52 = .ok (.iload_n 2, 1) := by decide +kernel
theorem dX9_purse_53 : decode cX9_purse 53 = .ok (.if_icmp .le 7, 3) := by decide +kernel
theorem dX9_purse_56 : decode cX9_purse 56 = .ok (.ldc2_w 180, 3) := by decide +kernel
theorem dX9_purse_59 : decode cX9_purse 59 = .ok (.lreturn, 1) := by decide +kernel
theorem dX9_purse_60 : decode cX9_purse 60 = .ok (.aload_n 0, 1) := by decide +kernel
theorem dX9_purse_61 : decode cX9_purse 61 = .ok (.getfield 68, 3) := by decide +kernel
theorem dX9_purse_64 : decode cX9_purse 64 = .ok (.aload_n 0, 1) := by decide +kernel
theorem dX9_purse_65 : decode cX9_purse 65 = .ok (.getfield 11, 3) := by decide +kernel
theorem dX9_purse_68 : decode cX9_purse 68 = .ok (.iload_n 1, 1) := by decide +kernel
theorem dX9_purse_69 : decode cX9_purse 69 = .ok (.aaload, 1) := by decide +kernel
theorem dX9_purse_70 : decode cX9_purse 70 = .ok (.aload_n 0, 1) := by decide +kernel
theorem dX9_purse_71 : decode cX9_purse 71 = .ok (.getfield 18, 3) := by decide +kernel
theorem dX9_purse_74 : decode cX9_purse 74 = .ok (.invokevirtual 172, 3) := by decide +kernel
theorem dX9_purse_77 : decode cX9_purse 77 = .ok (.lreturn, 1) := by decide +kernel
theorem dX9_print_0 : decode cX9_print 0 = .ok (.aload_n 0, 1) := by decide +kernel
theorem dX9_print_1 : decode cX9_print 1 = .ok (.iload_n 1, 1) := by decide +kernel
theorem dX9_print_2 : decode cX9_print 2 = .ok (.iconst 1, 1) := by decide +kernel
theorem dX9_print_3 : decode cX9_print 3 = .ok (.invokevirtual 166, 3) := by decide +kernel
theorem dX9_print_6 : decode cX9_print 6 = .ok (.istore_n 3, 1) := by decide +kernel
theorem dX9_print_7 : decode cX9_print 7 = .ok (.iload_n 3, 1) := by decide +kernel
theorem dX9_print_8 : decode cX9_print 8 = .ok (.ifCond .eq 5, 3) := by decide +kernel
theorem dX9_print_11 : decode cX9_print 11 = .ok (.iload_n 3, 1) := by decide +kernel
theorem dX9_print_12 : decode cX9_print 12 = .ok (.ireturn, 1) := by decide +kernel
theorem dX9_print_13 : decode cX9_print 13 = .ok (.aload_n 0, 1) := by decide +kernel
theorem dX9_print_14 : decode cX9_print 14 = .ok (.getfield 75, 3) := by decide +kernel
theorem dX9_print_17 : decode cX9_print 17 = .ok (.aload_n 0, 1) := by decide +kernel
theorem dX9_print_18 : decode cX9_print 18 = .ok (.getfield 11, 3) := by decide +kernel
theorem dX9_print_21 : decode cX9_print 21 = .ok (.iload_n 1, 1) := by decide +kernel
theorem dX9_print_22 : decode cX9_print 22 = .ok (.aaload, 1) := by decide +kernel
theorem dX9_print_23 : decode cX9_print 23 = .ok (.invokevirtual 182, 3) := by decide +kernel
theorem dX9_print_26 : decode cX9_print 26 = .ok (.istore 4, 2) := by decide +kernel
theorem dX9_print_28 : decode cX9_print 28 = .ok (.iload_n 2, 1) := by decide +kernel
theorem dX9_print_29 : decode cX9_print 29 = .ok (.iconst (-1), 1) := by decide +kernel
theorem dX9_print_30 : decode cX9_print 30 = .ok (.if_icmp .lt 9, 3) := by decide +kernel
theorem dX9_print_33 : decode cX9_print 33 = .ok (.iload_n 2, 1) := by decide +kernel
theorem dX9_print_34 : decode cX9_print 34 = .ok (.iload 4, 2) := by decide +kernel
theorem dX9_print_36 : decode cX9_print 36 = .ok (.if_icmp .lt 6, 3) := by decide +kernel
theorem dX9_print_39 : decode cX9_print 39 = .ok (.bipush (-12), 2) := by decide +kernel
theorem dX9_print_41 : decode cX9_print 41 = .ok (.ireturn, 1) := by decide +kernel
theorem dX9_print_42 : decode cX9_print 42 = .ok (.iload_n 2, 1) := by decide +kernel
theorem dX9_print_43 : decode cX9_print 43 = .ok (.ifCond .ge 8, 3) := by decide +kernel
theorem dX9_print_46 : decode cX9_print 46 = .ok (.iload 4, 2) := by decide +kernel
theorem dX9_print_48 : decode cX9_print 48 = .ok (.goto 11, 3) := by decide +kernel
theorem dX9_print_51 : decode cX9_print 51 = .ok (.aload_n 0, 1) := by decide +kernel
theorem dX9_print_52 : decode cX9_print 52 = .ok (.getfield 75, 3) := by decide +kernel
theorem dX9_print_55 : decode cX9_print 55 = .ok (.iload_n 2, 1) := by decide +kernel
theorem dX9_print_56 : decode cX9_print 56 = .ok (.invokevirtual 186, 3) := by decide +kernel
theorem dX9_print_59 : decode cX9_print 59 = .ok (.ireturn, 1) := by decide +kernel
theorem dX9_measure_0 : decode cX9_measure 0 = .ok (.aload_n 0, 1) := by decide +kernel
theorem dX9_measure_1 : decode cX9_measure 1 = .ok (.iload_n 1, 1) := by decide +kernel
theorem dX9_measure_2 : decode cX9_measure 2 = .ok (.iload_n 2, 1) := by decide +kernel
theorem dX9_measure_3 : decode cX9_measure 3 = .ok (.ifCond .lt 12, 3) := by decide +kernel
theorem dX9_measure_6 : decode cX9_measure 6 = .ok (.iload_n 2, 1) := by decide +kernel
theorem dX9_measure_7 : decode cX9_measure 7 = .ok (.iconst 5, 1) := by decide +kernel
theorem dX9_measure_8 : decode cX9_measure 8 = .ok (.if_icmp .gt 7, 3) := by decide +kernel
theorem dX9_measure_11 : decode cX9_measure 11 = .ok (.iconst 1, 1) := by decide +kernel
theorem dX9_measure_12 : decode cX9_measure 12 = .ok (.goto 4, 3) := by decide +kernel
theorem dX9_measure_15 : decode cX9_measure 15 = .ok (.iconst 0, 1) := by decide +kernel
theorem dX9_measure_16 : decode cX9_measure 16 = .ok (.invokevirtual 166, 3) := by decide +kernel
theorem dX9_measure_19 : decode cX9_measure 19 = .ok (.istore_n 3, 1) := by decide +kernel
theorem dX9_measure_20 : decode cX9_measure 20 = .ok (.iload_n 3, 1) := by decide +kernel
theorem dX9_measure_21 : decode cX9_measure 21 = .ok (.ifCond .eq 7, 3) := by decide +kernel
theorem dX9_measure_24 : decode cX9_measure 24 = .ok (.iload_n 3, 1) := by decide +kernel
theorem dX9_measure_25 : decode cX9_measure 25 = .ok (.goto 17, 3) := by decide +kernel
theorem dX9_measure_28 : decode cX9_measure 28 = .ok (.aload_n 0, 1) := by decide +kernel
theorem dX9_measure_29 : decode cX9_measure 29 = .ok (.getfield 89, 3) := by decide +kernel
theorem dX9_measure_32 : decode cX9_measure 32 = .ok (.aload_n 0, 1) := by decide +kernel
theorem dX9_measure_33 : decode cX9_measure 33 = .ok (.getfield 11, 3) := by decide +kernel
theorem dX9_measure_36 : decode cX9_measure 36 = .ok (.iload_n 1, 1) := by decide +kernel
theorem dX9_measure_37 : decode cX9_measure 37 = .ok (.aaload, 1) := by decide +kernel
theorem dX9_measure_38 : decode cX9_measure 38 = .ok (.iload_n 2, 1) := by decide +kernel
theorem dX9_measure_39 : decode cX9_measure 39 = .ok (.invokevirtual 189, 3) := by decide +kernel
theorem dX9_measure_42 : decode cX9_measure 42 = .ok (.ireturn, 1) := by decide +kernel
theorem dX9_code_0 : decode cX9_code 0 = .ok (.aload_n 0, 1) := by decide +kernel
theorem dX9_code_1 : decode cX9_code 1 = .ok (.iload_n 1, 1) := by decide +kernel
theorem dX9_code_2 : decode cX9_code 2 = .ok (.iload_n 2, 1) := by decide +kernel
theorem dX9_code_3 : decode cX9_code 3 = .ok (.bipush (-3), 2) := by decide +kernel
theorem dX9_code_5 : decode cX9_code 5 = .ok (.if_icmp .lt 7, 3) := by decide +kernel
theorem dX9_code_8 : decode cX9_code 8 = .ok (.iconst 1, 1) := by decide +kernel
theorem dX9_code_9 : decode cX9_code 9 = .ok (.goto 4, 3) := by decide +kernel
theorem dX9_code_12 : decode cX9_code 12 = .ok (.iconst 0, 1) := by decide +kernel
theorem dX9_code_13 : decode cX9_code 13 = .ok (.invokevirtual 166, 3) := by decide +kernel
theorem dX9_code_16 : decode cX9_code 16 = .ok (.istore_n 3, 1) := by decide +kernel
theorem dX9_code_17 : decode cX9_code 17 = .ok (.iload_n 3, 1) := by decide +kernel
theorem dX9_code_18 : decode cX9_code 18 = .ok (.ifCond .eq 5, 3) := by decide +kernel
theorem dX9_code_21 : decode cX9_code 21 = .ok (.iload_n 3, 1) := by decide +kernel
theorem dX9_code_22 : decode cX9_code 22 = .ok (.ireturn, 1) := by decide +kernel
theorem dX9_code_23 : decode cX9_code 23 = .ok (.aload_n 0, 1) := by decide +kernel
theorem dX9_code_24 : decode cX9_code 24 = .ok (.getfield 82, 3) := by decide +kernel
theorem dX9_code_27 : decode cX9_code 27 = .ok (.aload_n 0, 1) := by decide +kernel
theorem dX9_code_28 : decode cX9_code 28 = .ok (.getfield 11, 3) := by decide +kernel
theorem dX9_code_31 : decode cX9_code 31 = .ok (.iload_n 1, 1) := by decide +kernel
theorem dX9_code_32 : decode cX9_code 32 = .ok (.aaload, 1) := by decide +kernel
theorem dX9_code_33 : decode cX9_code 33 = .ok (.invokevirtual 193, 3) := by decide +kernel
theorem dX9_code_36 : decode cX9_code 36 = .ok (.iload_n 2, 1) := by decide +kernel
theorem dX9_code_37 : decode cX9_code 37 = .ok (.aload_n 0, 1) := by decide +kernel
theorem dX9_code_38 : decode cX9_code 38 = .ok (.getfield 82, 3) := by decide +kernel
theorem dX9_code_41 : decode cX9_code 41 = .ok (.invokevirtual 196, 3) := by decide +kernel
theorem dX9_code_44 : decode cX9_code 44 = .ok (.if_icmp .lt 6, 3) := by decide +kernel
theorem dX9_code_47 : decode cX9_code 47 = .ok (.bipush (-12), 2) := by decide +kernel
theorem dX9_code_49 : decode cX9_code 49 = .ok (.ireturn, 1) := by decide +kernel
theorem dX9_code_50 : decode cX9_code 50 = .ok (.iload_n 2, 1) := by decide +kernel
theorem dX9_code_51 : decode cX9_code 51 = .ok (.ifCond .lt 12, 3) := by decide +kernel
theorem dX9_code_54 : decode cX9_code 54 = .ok (.aload_n 0, 1) := by decide +kernel
theorem dX9_code_55 : decode cX9_code 55 = .ok (.getfield 82, 3) := by decide +kernel
theorem dX9_code_58 : decode cX9_code 58 = .ok (.iload_n 2, 1) := by decide +kernel
theorem dX9_code_59 : decode cX9_code 59 = .ok (.invokevirtual 199, 3) := by decide +kernel
theorem dX9_code_62 : decode cX9_code 62 = .ok (.ireturn, 1) := by decide +kernel
theorem dX9_code_63 : decode cX9_code 63 = .ok (.iload_n 2, 1) := by decide +kernel
theorem dX9_code_64 : decode cX9_code 64 = .ok (.iconst (-1), 1) := by decide +kernel
theorem dX9_code_65 : decode cX9_code 65 = .ok (.if_icmp .ne 11, 3) := by decide +kernel
theorem dX9_code_68 : decode cX9_code 68 = .ok (.aload_n 0, 1) := by decide +kernel
theorem dX9_code_69 : decode cX9_code 69 = .ok (.getfield 82, 3) := by decide +kernel
theorem dX9_code_72 : decode cX9_code 72 = .ok (.invokevirtual 196, 3) := by decide +kernel
theorem dX9_code_75 : decode cX9_code 75 = .ok (.ireturn, 1) := by decide +kernel
theorem dX9_code_76 : decode cX9_code 76 = .ok (.aload_n 0, 1) := by decide +kernel
theorem dX9_code_77 : decode cX9_code 77 = .ok (.getfield 82, 3) := by decide +kernel
theorem dX9_code_80 : decode cX9_code 80 = .ok (.aload_n 0, 1) := by decide +kernel
theorem dX9_code_81 : decode cX9_code 81 = .ok (.getfield 18, 3) := by decide +kernel
theorem dX9_code_84 : decode cX9_code 84 = .ok (.invokevirtual 202, 3) := by decide +kernel
theorem dX9_code_87 : decode cX9_code 87 = .ok (.pop2, 1) := by decide +kernel
theorem dX9_code_88 : decode cX9_code 88 = .ok (.iload_n 2, 1) := by decide +kernel
theorem dX9_code_89 : decode cX9_code 89 = .ok (.bipush (-2), 2) := by decide +kernel
theorem dX9_code_91 : decode cX9_code 91 = .ok (.if_icmp .ne 13, 3) := by decide +kernel
theorem dX9_code_94 : decode cX9_code 94 = .ok (.aload_n 0, 1) := by decide +kernel
theorem dX9_code_95 : decode cX9_code 95 = .ok (.getfield 82, 3) := by decide +kernel
theorem dX9_code_98 : decode cX9_code 98 = .ok (.invokevirtual 206, 3) := by decide +kernel
theorem dX9_code_101 : decode cX9_code 101 = .ok (.goto 10, 3) := by decide +kernel
theorem dX9_code_104 : decode cX9_code 104 = .ok (.aload_n 0, 1) := by decide +kernel
theorem dX9_code_105 : decode cX9_code 105 = .ok (.getfield 82, 3) := by decide +kernel
theorem dX9_code_108 : decode cX9_code 108 = .ok (.invokevirtual 209, 3) := by decide +kernel
theorem dX9_code_111 : decode cX9_code 111 = .ok (.ireturn, 1) := by decide +kernel
theorem dX9_run_0 : decode cX9_run 0 = .ok (.aload_n 0, 1) := by decide +kernel
theorem dX9_run_1 : decode cX9_run 1 = .ok (.iload_n 1, 1) := by decide +kernel
theorem dX9_run_2 : decode cX9_run 2 = .ok (.iconst 1, 1) := by decide +kernel
theorem dX9_run_3 : decode cX9_run 3 = .ok (.invokevirtual 166, 3) := by decide +kernel
theorem dX9_run_6 : decode cX9_run 6 = .ok (.istore_n 2, 1) := by decide +kernel
theorem dX9_run_7 : decode cX9_run 7 = .ok (.iload_n 2, 1) := by decide +kernel
theorem dX9_run_8 : decode cX9_run 8 = .ok (.ifCond .eq 10, 3) := by decide +kernel
theorem dX9_run_11 : decode cX9_run 11 = .ok (.iload_n 2, 1) := by decide +kernel
theorem dX9_run_12 : decode cX9_run 12 = .ok (.i2l, 1) := by decide +kernel
theorem dX9_run_13 : decode cX9_run 13 = .ok (.ldc2_w 170, 3) := by decide +kernel
theorem dX9_run_16 : decode cX9_run 16 = .ok (.lsub, 1) := by decide +kernel
theorem dX9_run_17 : decode cX9_run 17 = .ok (.lreturn, 1) := by decide +kernel
theorem dX9_run_18 : decode cX9_run 18 = .ok (.aload_n 0, 1) := by decide +kernel
theorem dX9_run_19 : decode cX9_run 19 = .ok (.getfield 82, 3) := by decide +kernel
theorem dX9_run_22 : decode cX9_run 22 = .ok (.aload_n 0, 1) := by decide +kernel
theorem dX9_run_23 : decode cX9_run 23 = .ok (.getfield 11, 3) := by decide +kernel
theorem dX9_run_26 : decode cX9_run 26 = .ok (.iload_n 1, 1) := by decide +kernel
theorem dX9_run_27 : decode cX9_run 27 = .ok (.aaload, 1) := by decide +kernel
theorem dX9_run_28 : decode cX9_run 28 = .ok (.invokevirtual 193, 3) := by decide +kernel
theorem dX9_run_31 : decode cX9_run 31 = .ok (.aload_n 0, 1) := by decide +kernel
theorem dX9_run_32 : decode cX9_run 32 = .ok (.getfield 82, 3) := by decide +kernel
theorem dX9_run_35 : decode cX9_run 35 = .ok (.aload_n 0, 1) := by decide +kernel
theorem dX9_run_36 : decode cX9_run 36 = .ok (.getfield 18, 3) := by decide +kernel
theorem dX9_run_39 : decode cX9_run 39 = .ok (.invokevirtual 202, 3) := by decide +kernel
theorem dX9_run_42 : decode cX9_run 42 = .ok (.lreturn, 1) := by decide +kernel
theorem dX9_alike_0 : decode cX9_alike 0 = .ok (.iload_n 1, 1) := by decide +kernel
theorem dX9_alike_1 : decode cX9_alike 1 = .ok (.invokestatic 106, 3) := by decide +kernel
theorem dX9_alike_4 : decode cX9_alike 4 = .ok (.ifCond .eq 19, 3) := by decide +kernel
theorem dX9_alike_7 : decode cX9_alike 7 = .ok (.iload_n 2, 1) := by decide +kernel
theorem dX9_alike_8 : decode cX9_alike 8 = .ok (.invokestatic 106, 3) := by decide +kernel
theorem dX9_alike_11 : decode cX9_alike 11 = .ok (.ifCond .eq 12, 3) := by decide +kernel
theorem dX9_alike_14 : decode cX9_alike 14 = .ok (.iload_n 3, 1) := by decide +kernel
theorem dX9_alike_15 : decode cX9_alike 15 = .ok (.ifCond .lt 8, 3) := by decide +kernel
theorem dX9_alike_18 : decode cX9_alike 18 = .ok (.iload_n 3, 1) := by decide +kernel
theorem dX9_alike_19 : decode cX9_alike 19 = .ok (.iconst 2, 1) := by decide +kernel
theorem dX9_alike_20 : decode cX9_alike 20 = .ok (.if_icmp .le 6, 3) := by decide +kernel
theorem dX9_alike_23 : decode cX9_alike 23 = .ok (.bipush (-2), 2) := by decide +kernel
theorem dX9_alike_25 : decode cX9_alike 25 = .ok (.ireturn, 1) := by decide +kernel
theorem dX9_alike_26 : decode cX9_alike 26 = .ok (.aload_n 0, 1) := by decide +kernel
theorem dX9_alike_27 : decode cX9_alike 27 = .ok (.getfield 11, 3) := by decide +kernel
theorem dX9_alike_30 : decode cX9_alike 30 = .ok (.iload_n 1, 1) := by decide +kernel
theorem dX9_alike_31 : decode cX9_alike 31 = .ok (.aaload, 1) := by decide +kernel
theorem dX9_alike_32 : decode cX9_alike 32 = .ok (.astore 4, 2) := by decide +kernel
theorem dX9_alike_34 : decode cX9_alike 34 = .ok (.aload_n 0, 1) := by decide +kernel
theorem dX9_alike_35 : decode cX9_alike 35 = .ok (.getfield 11, 3) := by decide +kernel
theorem dX9_alike_38 : decode cX9_alike 38 = .ok (.iload_n 2, 1) := by decide +kernel
theorem dX9_alike_39 : decode cX9_alike 39 = .ok (.aaload, 1) := by decide +kernel
theorem dX9_alike_40 : decode cX9_alike 40 = .ok (.astore 5, 2) := by decide +kernel
theorem dX9_alike_42 : decode cX9_alike 42 = .ok (.aload 4, 2) := by decide +kernel
theorem dX9_alike_44 : decode cX9_alike 44 = .ok (.invokevirtual 128, 3) := by decide +kernel
theorem dX9_alike_47 : decode cX9_alike 47 = .ok (.ifCond .ne 16, 3) := by decide +kernel
theorem dX9_alike_50 : decode cX9_alike 50 = .ok (.iload_n 3, 1) := by decide +kernel
theorem dX9_alike_51 : decode cX9_alike 51 = .ok (.iconst 2, 1) := by decide +kernel
theorem dX9_alike_52 : decode cX9_alike 52 = .ok (.if_icmp .eq 14, 3) := by decide +kernel
theorem dX9_alike_55 : decode cX9_alike 55 = .ok (.aload 5, 2) := by decide +kernel
theorem dX9_alike_57 : decode cX9_alike 57 = .ok (.invokevirtual 128, 3) := by decide +kernel
theorem dX9_alike_60 : decode cX9_alike 60 = .ok (.ifCond .eq 6, 3) := by decide +kernel
theorem dX9_alike_63 : decode cX9_alike 63 = .ok (.bipush (-3), 2) := by decide +kernel
theorem dX9_alike_65 : decode cX9_alike 65 = .ok (.ireturn, 1) := by decide +kernel
theorem dX9_alike_66 : decode cX9_alike 66 = .ok (.iload_n 3, 1) := by decide +kernel
theorem dX9_alike_67 : decode cX9_alike 67 = .ok (.ifCond .ne 21, 3) := by decide +kernel
theorem dX9_alike_70 : decode cX9_alike 70 = .ok (.aload 4, 2) := by decide +kernel
theorem dX9_alike_72 : decode cX9_alike 72 = .ok (.iconst 0, 1) := by decide +kernel
theorem dX9_alike_73 : decode cX9_alike 73 = .ok (.aload 5, 2) := by decide +kernel
theorem dX9_alike_75 : decode cX9_alike 75 = .ok (.iconst 0, 1) := by decide +kernel
theorem dX9_alike_76 : decode cX9_alike 76 = .ok (.invokevirtual 212, 3) := by decide +kernel
theorem dX9_alike_79 : decode cX9_alike 79 = .ok (.ifCond .eq 7, 3) := by decide +kernel
theorem dX9_alike_82 : decode cX9_alike 82 = .ok (.iconst 1, 1) := by decide +kernel
theorem dX9_alike_83 : decode cX9_alike 83 = .ok (.goto 4, 3) := by decide +kernel
theorem dX9_alike_86 : decode cX9_alike 86 = .ok (.iconst 0, 1) := by decide +kernel
theorem dX9_alike_87 : decode cX9_alike 87 = .ok (.ireturn, 1) := by decide +kernel
theorem dX9_alike_88 : decode cX9_alike 88 = .ok (.iload_n 3, 1) := by decide +kernel
theorem dX9_alike_89 : decode cX9_alike 89 = .ok (.iconst 1, 1) := by decide +kernel
theorem dX9_alike_90 : decode cX9_alike 90 = .ok (.if_icmp .ne 13, 3) := by decide +kernel
theorem dX9_alike_93 : decode cX9_alike 93 = .ok (.aload 4, 2) := by decide +kernel
theorem dX9_alike_95 : decode cX9_alike 95 = .ok (.aload 5, 2) := by decide +kernel
theorem dX9_alike_97 : decode cX9_alike 97 = .ok (.invokestatic 216, 3) := by decide +kernel
theorem dX9_alike_100 : decode cX9_alike 100 = .ok (.goto 8, 3) := by decide +kernel
theorem dX9_alike_103 : decode cX9_alike 103 = .ok (.aload 4, 2) := by decide +kernel
theorem dX9_alike_105 : decode cX9_alike 105 = .ok (.invokestatic 220, 3) := by decide +kernel
theorem dX9_alike_108 : decode cX9_alike 108 = .ok (.ireturn, 1) := by decide +kernel
theorem dX9_degree_0 : decode cX9_degree 0 = .ok (.aload_n 0, 1) := by decide +kernel
theorem dX9_degree_1 : decode cX9_degree 1 = .ok (.iload_n 1, 1) := by decide +kernel
theorem dX9_degree_2 : decode cX9_degree 2 = .ok (.iload_n 2, 1) := by decide +kernel
theorem dX9_degree_3 : decode cX9_degree 3 = .ok (.invokestatic 122, 3) := by decide +kernel
theorem dX9_degree_6 : decode cX9_degree 6 = .ok (.invokevirtual 166, 3) := by decide +kernel
theorem dX9_degree_9 : decode cX9_degree 9 = .ok (.istore_n 3, 1) := by decide +kernel
theorem dX9_degree_10 : decode cX9_degree 10 = .ok (.iload_n 3, 1) := by decide +kernel
theorem dX9_degree_11 : decode cX9_degree 11 = .ok (.ifCond .eq 7, 3) := by decide +kernel
theorem dX9_degree_14 : decode cX9_degree 14 = .ok (.iload_n 3, 1) := by decide +kernel
theorem dX9_degree_15 : decode cX9_degree 15 = .ok (.goto 17, 3) := by decide +kernel
theorem dX9_degree_18 : decode cX9_degree 18 = .ok (.aload_n 0, 1) := by decide +kernel
theorem dX9_degree_19 : decode cX9_degree 19 = .ok (.getfield 89, 3) := by decide +kernel
theorem dX9_degree_22 : decode cX9_degree 22 = .ok (.aload_n 0, 1) := by decide +kernel
theorem dX9_degree_23 : decode cX9_degree 23 = .ok (.getfield 11, 3) := by decide +kernel
theorem dX9_degree_26 : decode cX9_degree 26 = .ok (.iload_n 1, 1) := by decide +kernel
theorem dX9_degree_27 : decode cX9_degree 27 = .ok (.aaload, 1) := by decide +kernel
theorem dX9_degree_28 : decode cX9_degree 28 = .ok (.iload_n 2, 1) := by decide +kernel
theorem dX9_degree_29 : decode cX9_degree 29 = .ok (.invokevirtual 223, 3) := by decide +kernel
theorem dX9_degree_32 : decode cX9_degree 32 = .ok (.ireturn, 1) := by decide +kernel
theorem dX9_sought_0 : decode cX9_sought 0 = .ok (.iload_n 2, 1) := by decide +kernel
theorem dX9_sought_1 : decode cX9_sought 1 = .ok (.invokestatic 122, 3) := by decide +kernel
theorem dX9_sought_4 : decode cX9_sought 4 = .ok (.ifCond .eq 31, 3) := by decide +kernel
theorem dX9_sought_7 : decode cX9_sought 7 = .ok (.iload 4, 2) := by decide +kernel
theorem dX9_sought_9 : decode cX9_sought 9 = .ok (.iconst 1, 1) := by decide +kernel
theorem dX9_sought_10 : decode cX9_sought 10 = .ok (.if_icmp .lt 25, 3) := by decide +kernel
theorem dX9_sought_13 : decode cX9_sought 13 = .ok (.iload 4, 2) := by decide +kernel
theorem dX9_sought_15 : decode cX9_sought 15 = .ok (.bipush 100, 2) := by decide +kernel
theorem dX9_sought_17 : decode cX9_sought 17 = .ok (.if_icmp .gt 18, 3) := by decide +kernel
theorem dX9_sought_20 : decode cX9_sought 20 = .ok (.iload 6, 2) := by decide +kernel
theorem dX9_sought_22 : decode cX9_sought 22 = .ok (.ifCond .eq 9, 3) := by decide +kernel
theorem dX9_sought_25 : decode cX9_sought 25 = .ok (.iload 6, 2) := by decide +kernel
theorem dX9_sought_27 : decode cX9_sought 27 = .ok (.iconst 1, 1) := by decide +kernel
theorem dX9_sought_28 : decode cX9_sought 28 = .ok (.if_icmp .ne 7, 3) := by decide +kernel
theorem dX9_sought_31 : decode cX9_sought 31 = .ok (.iconst 1, 1) := by decide +kernel
theorem dX9_sought_32 : decode cX9_sought 32 = .ok (.goto 4, 3) := by decide +kernel
theorem dX9_sought_35 : decode cX9_sought 35 = .ok (.iconst 0, 1) := by decide +kernel
theorem dX9_sought_36 : decode cX9_sought 36 = .ok (.istore 7, 2) := by decide +kernel
theorem dX9_sought_38 : decode cX9_sought 38 = .ok (.aload_n 0, 1) := by decide +kernel
theorem dX9_sought_39 : decode cX9_sought 39 = .ok (.iload_n 1, 1) := by decide +kernel
theorem dX9_sought_40 : decode cX9_sought 40 = .ok (.iload 7, 2) := by decide +kernel
theorem dX9_sought_42 : decode cX9_sought 42 = .ok (.invokevirtual 166, 3) := by decide +kernel
theorem dX9_sought_45 : decode cX9_sought 45 = .ok (.istore 8, 2) := by decide +kernel
theorem dX9_sought_47 : decode cX9_sought 47 = .ok (.iload 8, 2) := by decide +kernel
theorem dX9_sought_49 : decode cX9_sought 49 = .ok (.ifCond .eq 6, 3) := by decide +kernel
theorem dX9_sought_52 : decode cX9_sought 52 = .ok (.iload 8, 2) := by decide +kernel
theorem dX9_sought_54 : decode cX9_sought 54 = .ok (.ireturn, 1) := by decide +kernel
theorem dX9_sought_55 : decode cX9_sought 55 = .ok (.aload_n 0, 1) := by decide +kernel
theorem dX9_sought_56 : decode cX9_sought 56 = .ok (.invokevirtual 226, 3) := by decide +kernel
theorem dX9_sought_59 : decode cX9_sought 59 = .ok (.iconst 0, 1) := by decide +kernel
theorem dX9_sought_60 : decode cX9_sought 60 = .ok (.istore 9, 2) := by decide +kernel
theorem dX9_sought_62 : decode cX9_sought 62 = .ok (.iconst 0, 1) := by decide +kernel
theorem dX9_sought_63 : decode cX9_sought 63 = .ok (.istore 10, 2) := by decide +kernel
theorem dX9_sought_65 : decode cX9_sought 65 = .ok (.iload 10, 2) := by decide +kernel
theorem dX9_sought_67 : decode cX9_sought 67 = .ok (.iload 4, 2) := by decide +kernel
theorem dX9_sought_69 : decode cX9_sought 69 = .ok (.if_icmp .ge 57, 3) := by decide +kernel
theorem dX9_sought_72 : decode cX9_sought 72 = .ok (.aload_n 0, 1) := by decide +kernel
theorem dX9_sought_73 : decode cX9_sought 73 = .ok (.getfield 34, 3) := by decide +kernel
theorem dX9_sought_76 : decode cX9_sought 76 = .ok (.iload_n 2, 1) := by decide +kernel
theorem dX9_sought_77 : decode cX9_sought 77 = .ok (.iload_n 3, 1) := by decide +kernel
theorem dX9_sought_78 : decode cX9_sought 78 = .ok (.iload 10, 2) := by decide +kernel
theorem dX9_sought_80 : decode cX9_sought 80 = .ok (.iadd, 1) := by decide +kernel
theorem dX9_sought_81 : decode cX9_sought 81 = .ok (.iastore, 1) := by decide +kernel
theorem dX9_sought_82 : decode cX9_sought 82 = .ok (.aload_n 0, 1) := by decide +kernel
theorem dX9_sought_83 : decode cX9_sought 83 = .ok (.getfield 68, 3) := by decide +kernel
theorem dX9_sought_86 : decode cX9_sought 86 = .ok (.aload_n 0, 1) := by decide +kernel
theorem dX9_sought_87 : decode cX9_sought 87 = .ok (.getfield 11, 3) := by decide +kernel
theorem dX9_sought_90 : decode cX9_sought 90 = .ok (.iload_n 1, 1) := by decide +kernel
theorem dX9_sought_91 : decode cX9_sought 91 = .ok (.aaload, 1) := by decide +kernel
theorem dX9_sought_92 : decode cX9_sought 92 = .ok (.aload_n 0, 1) := by decide +kernel
theorem dX9_sought_93 : decode cX9_sought 93 = .ok (.getfield 34, 3) := by decide +kernel
theorem dX9_sought_96 : decode cX9_sought 96 = .ok (.invokevirtual 172, 3) := by decide +kernel
theorem dX9_sought_99 : decode cX9_sought 99 = .ok (.iload 5, 2) := by decide +kernel
theorem dX9_sought_101 : decode cX9_sought 101 = .ok (.i2l, 1) := by decide +kernel
theorem dX9_sought_102 : decode cX9_sought 102 = .ok (.lcmp, 1) := by decide +kernel
theorem dX9_sought_103 : decode cX9_sought 103 = .ok (.ifCond .ne 17, 3) := by decide +kernel
theorem dX9_sought_106 : decode cX9_sought 106 = .ok (.iload 6, 2) := by decide +kernel
theorem dX9_sought_108 : decode cX9_sought 108 = .ok (.iconst 1, 1) := by decide +kernel
theorem dX9_sought_109 : decode cX9_sought 109 = .ok (.if_icmp .ne 8, 3) := by decide +kernel
theorem dX9_sought_112 : decode cX9_sought 112 = .ok (.iload_n 3, 1) := by decide +kernel
theorem dX9_sought_113 : decode cX9_sought 113 = .ok (.iload 10, 2) := by decide +kernel
theorem dX9_sought_115 : decode cX9_sought 115 = .ok (.iadd, 1) := by decide +kernel
theorem dX9_sought_116 : decode cX9_sought 116 = .ok (.ireturn, 1) := by decide +kernel
theorem dX9_sought_117 : decode cX9_sought 117 = .ok (.iinc 9 1, 3) := by decide +kernel
theorem dX9_sought_120 : decode cX9_sought 120 = .ok (.iinc 10 1, 3) := by decide +kernel
theorem dX9_sought_123 : decode cX9_sought 123 = .ok (.goto (-58), 3) := by decide +kernel
theorem dX9_sought_126 : decode cX9_sought 126 = .ok (.iload 9, 2) := by decide +kernel
theorem dX9_sought_128 : decode cX9_sought 128 = .ok (.ireturn, 1) := by decide +kernel
theorem dX9_drawn_0 : decode cX9_drawn 0 = .ok (.aload_n 0, 1) := by decide +kernel
theorem dX9_drawn_1 : decode cX9_drawn 1 = .ok (.iload_n 1, 1) := by decide +kernel
theorem dX9_drawn_2 : decode cX9_drawn 2 = .ok (.iconst 1, 1) := by decide +kernel
theorem dX9_drawn_3 : decode cX9_drawn 3 = .ok (.invokevirtual 166, 3) := by decide +kernel
theorem dX9_drawn_6 : decode cX9_drawn 6 = .ok (.istore_n 3, 1) := by decide +kernel
theorem dX9_drawn_7 : decode cX9_drawn 7 = .ok (.iload_n 3, 1) := by decide +kernel
theorem dX9_drawn_8 : decode cX9_drawn 8 = .ok (.ifCond .eq 12, 3) := by decide +kernel
theorem dX9_drawn_11 : decode cX9_drawn 11 = .ok (.iload_n 3, 1) := by decide +kernel
theorem dX9_drawn_12 : decode cX9_drawn 12 = .ok (.i2l, 1) := by decide +kernel
theorem dX9_drawn_13 : decode cX9_drawn 13 = .ok (.ldc2_w 170, 3) := by decide +kernel
theorem dX9_drawn_16 : decode cX9_drawn 16 = .ok (.lsub, 1) := by decide +kernel
theorem dX9_drawn_17 : decode cX9_drawn 17 = .ok (.goto 14, 3) := by decide +kernel
theorem dX9_drawn_20 : decode cX9_drawn 20 = .ok (.aload_n 0, 1) := by decide +kernel
theorem dX9_drawn_21 : decode cX9_drawn 21 = .ok (.aload_n 0, 1) := by decide +kernel
theorem dX9_drawn_22 : decode cX9_drawn 22 = .ok (.getfield 11, 3) := by decide +kernel
theorem dX9_drawn_25 : decode cX9_drawn 25 = .ok (.iload_n 1, 1) := by decide +kernel
theorem dX9_drawn_26 : decode cX9_drawn 26 = .ok (.aaload, 1) := by decide +kernel
theorem dX9_drawn_27 : decode cX9_drawn 27 = .ok (.iload_n 2, 1) := by decide +kernel
theorem dX9_drawn_28 : decode cX9_drawn 28 = .ok (.invokevirtual 229, 3) := by decide +kernel
theorem dX9_drawn_31 : decode cX9_drawn 31 = .ok (.lreturn, 1) := by decide +kernel
theorem dX9_chance_0 : decode cX9_chance 0 = .ok (.iload_n 3, 1) := by decide +kernel
theorem dX9_chance_1 : decode cX9_chance 1 = .ok (.iconst 1, 1) := by decide +kernel
theorem dX9_chance_2 : decode cX9_chance 2 = .ok (.if_icmp .lt 24, 3) := by decide +kernel
theorem dX9_chance_5 : decode cX9_chance 5 = .ok (.iload_n 3, 1) := by decide +kernel
theorem dX9_chance_6 : decode cX9_chance 6 = .ok (.bipush 20, 2) := by decide +kernel
theorem dX9_chance_8 : decode cX9_chance 8 = .ok (.if_icmp .gt 18, 3) := by decide +kernel
theorem dX9_chance_11 : decode cX9_chance 11 = .ok (.iload 5, 2) := by decide +kernel
theorem dX9_chance_13 : decode cX9_chance 13 = .ok (.ifCond .eq 9, 3) := by decide +kernel
theorem dX9_chance_16 : decode cX9_chance 16 = .ok (.iload 5, 2) := by decide +kernel
theorem dX9_chance_18 : decode cX9_chance 18 = .ok (.iconst 1, 1) := by decide +kernel
theorem dX9_chance_19 : decode cX9_chance 19 = .ok (.if_icmp .ne 7, 3) := by decide +kernel
theorem dX9_chance_22 : decode cX9_chance 22 = .ok (.iconst 1, 1) := by decide +kernel
theorem dX9_chance_23 : decode cX9_chance 23 = .ok (.goto 4, 3) := by decide +kernel
theorem dX9_chance_26 : decode cX9_chance 26 = .ok (.iconst 0, 1) := by decide +kernel
theorem dX9_chance_27 : decode cX9_chance 27 = .ok (.istore 6, 2) := by decide +kernel
theorem dX9_chance_29 : decode cX9_chance 29 = .ok (.aload_n 0, 1) := by decide +kernel
theorem dX9_chance_30 : decode cX9_chance 30 = .ok (.iload_n 1, 1) := by decide +kernel
theorem dX9_chance_31 : decode cX9_chance 31 = .ok (.iload 6, 2) := by decide +kernel
theorem dX9_chance_33 : decode cX9_chance 33 = .ok (.invokevirtual 166, 3) := by decide +kernel
theorem dX9_chance_36 : decode cX9_chance 36 = .ok (.istore 7, 2) := by decide +kernel
theorem dX9_chance_38 : decode cX9_chance 38 = .ok (.iload 7, 2) := by decide +kernel
theorem dX9_chance_40 : decode cX9_chance 40 = .ok (.ifCond .eq 6, 3) := by decide +kernel
theorem dX9_chance_43 : decode cX9_chance 43 = .ok (.iload 7, 2) := by decide +kernel
theorem dX9_chance_45 : decode cX9_chance 45 = .ok (.ireturn, 1) := by decide +kernel
theorem dX9_chance_46 : decode cX9_chance 46 = .ok (.iconst 0, 1) := by decide +kernel
theorem dX9_chance_47 : decode cX9_chance 47 = .ok (.istore 8, 2) := by decide +kernel
theorem dX9_chance_49 : decode cX9_chance 49 = .ok (.iconst 0, 1) := by decide +kernel
theorem dX9_chance_50 : decode cX9_chance 50 = .ok (.istore 9, 2) := by decide +kernel
theorem dX9_chance_52 : decode cX9_chance 52 = .ok (.iload 9, 2) := by decide +kernel
theorem dX9_chance_54 : decode cX9_chance 54 = .ok (.iload_n 3, 1) := by decide +kernel
theorem dX9_chance_55 : decode cX9_chance 55 = .ok (.if_icmp .ge 33, 3) := by decide +kernel
theorem dX9_chance_58 : decode cX9_chance 58 = .ok (.aload_n 0, 1) := by decide +kernel
theorem dX9_chance_59 : decode cX9_chance 59 = .ok (.aload_n 0, 1) := by decide +kernel
theorem dX9_chance_60 : decode cX9_chance 60 = .ok (.getfield 11, 3) := by decide +kernel
theorem dX9_chance_63 : decode cX9_chance 63 = .ok (.iload_n 1, 1) := by decide +kernel
theorem dX9_chance_64 : decode cX9_chance 64 = .ok (.aaload, 1) := by decide +kernel
theorem dX9_chance_65 : decode cX9_chance 65 = .ok (.iload_n 2, 1) := by decide +kernel
theorem dX9_chance_66 : decode cX9_chance 66 = .ok (.iload 9, 2) := by decide +kernel
theorem dX9_chance_68 : decode cX9_chance 68 = .ok (.iadd, 1) := by decide +kernel
theorem dX9_chance_69 : decode cX9_chance 69 = .ok (.invokevirtual 229, 3) := by decide +kernel
theorem dX9_chance_72 : decode cX9_chance 72 = .ok (.iload 4, 2) := by decide +kernel
theorem dX9_chance_74 : decode cX9_chance 74 = .ok (.i2l, 1) := by decide +kernel
theorem dX9_chance_75 : decode cX9_chance 75 = .ok (.lcmp, 1) := by decide +kernel
theorem dX9_chance_76 : decode cX9_chance 76 = .ok (.ifCond .gt 6, 3) := by decide +kernel
theorem dX9_chance_79 : decode cX9_chance 79 = .ok (.iinc 8 1, 3) := by decide +kernel
theorem dX9_chance_82 : decode cX9_chance 82 = .ok (.iinc 9 1, 3) := by decide +kernel
theorem dX9_chance_85 : decode cX9_chance 85 = .ok (.goto (-33), 3) := by decide +kernel
theorem dX9_chance_88 : decode cX9_chance 88 = .ok (.iload 8, 2) := by decide +kernel
theorem dX9_chance_90 : decode cX9_chance 90 = .ok (.iload_n 3, 1) := by decide +kernel
theorem dX9_chance_91 : decode cX9_chance 91 = .ok (.invokestatic 233, 3) := by decide +kernel
theorem dX9_chance_94 : decode cX9_chance 94 = .ok (.istore 9, 2) := by decide +kernel
theorem dX9_chance_96 : decode cX9_chance 96 = .ok (.iload 5, 2) := by decide +kernel
theorem dX9_chance_98 : decode cX9_chance 98 = .ok (.ifCond .ne 8, 3) := by decide +kernel
theorem dX9_chance_101 : decode cX9_chance 101 = .ok (.iload 8, 2) := by decide +kernel
theorem dX9_chance_103 : decode cX9_chance 103 = .ok (.goto 4, 3) := by decide +kernel
theorem dX9_chance_106 : decode cX9_chance 106 = .ok (.iload_n 3, 1) := by decide +kernel
theorem dX9_chance_107 : decode cX9_chance 107 = .ok (.iload 9, 2) := by decide +kernel
theorem dX9_chance_109 : decode cX9_chance 109 = .ok (.ifCond .le 8, 3) := by decide +kernel
theorem dX9_chance_112 : decode cX9_chance 112 = .ok (.iload 9, 2) := by decide +kernel
theorem dX9_chance_114 : decode cX9_chance 114 = .ok (.goto 4, 3) := by decide +kernel
theorem dX9_chance_117 : decode cX9_chance 117 = .ok (.iconst 1, 1) := by decide +kernel
theorem dX9_chance_118 : decode cX9_chance 118 = .ok (.idiv, 1) := by decide +kernel
theorem dX9_chance_119 : decode cX9_chance 119 = .ok (.ireturn, 1) := by decide +kernel
theorem dX9_tells_0 : decode cX9_tells 0 = .ok (.iload_n 1, 1) := by decide +kernel
theorem dX9_tells_1 : decode cX9_tells 1 = .ok (.invokestatic 236, 3) := by decide +kernel
theorem dX9_tells_4 : decode cX9_tells 4 = .ok (.ifCond .eq 25, 3) := by decide +kernel
theorem dX9_tells_7 : decode cX9_tells 7 = .ok (.iload_n 2, 1) := by decide +kernel
theorem dX9_tells_8 : decode cX9_tells 8 = .ok (.invokestatic 106, 3) := by decide +kernel
theorem dX9_tells_11 : decode cX9_tells 11 = .ok (.ifCond .eq 18, 3) := by decide +kernel
theorem dX9_tells_14 : decode cX9_tells 14 = .ok (.iload_n 3, 1) := by decide +kernel
theorem dX9_tells_15 : decode cX9_tells 15 = .ok (.invokestatic 122, 3) := by decide +kernel
theorem dX9_tells_18 : decode cX9_tells 18 = .ok (.ifCond .eq 11, 3) := by decide +kernel
theorem dX9_tells_21 : decode cX9_tells 21 = .ok (.iload 4, 2) := by decide +kernel
theorem dX9_tells_23 : decode cX9_tells 23 = .ok (.invokestatic 239, 3) := by decide +kernel
theorem dX9_tells_26 : decode cX9_tells 26 = .ok (.ifCond .ne 6, 3) := by decide +kernel
theorem dX9_tells_29 : decode cX9_tells 29 = .ok (.bipush (-2), 2) := by decide +kernel
theorem dX9_tells_31 : decode cX9_tells 31 = .ok (.ireturn, 1) := by decide +kernel
theorem dX9_tells_32 : decode cX9_tells 32 = .ok (.aload_n 0, 1) := by decide +kernel
theorem dX9_tells_33 : decode cX9_tells 33 = .ok (.getfield 11, 3) := by decide +kernel
theorem dX9_tells_36 : decode cX9_tells 36 = .ok (.iload_n 2, 1) := by decide +kernel
theorem dX9_tells_37 : decode cX9_tells 37 = .ok (.aaload, 1) := by decide +kernel
theorem dX9_tells_38 : decode cX9_tells 38 = .ok (.astore 5, 2) := by decide +kernel
theorem dX9_tells_40 : decode cX9_tells 40 = .ok (.iload 4, 2) := by decide +kernel
theorem dX9_tells_42 : decode cX9_tells 42 = .ok (.bipush 10, 2) := by decide +kernel
theorem dX9_tells_44 : decode cX9_tells 44 = .ok (.if_icmp .ge 7, 3) := by decide +kernel
theorem dX9_tells_47 : decode cX9_tells 47 = .ok (.iconst 0, 1) := by decide +kernel
theorem dX9_tells_48 : decode cX9_tells 48 = .ok (.goto 28, 3) := by decide +kernel
theorem dX9_tells_51 : decode cX9_tells 51 = .ok (.aload 5, 2) := by decide +kernel
theorem dX9_tells_53 : decode cX9_tells 53 = .ok (.iload 4, 2) := by decide +kernel
theorem dX9_tells_55 : decode cX9_tells 55 = .ok (.bipush 100, 2) := by decide +kernel
theorem dX9_tells_57 : decode cX9_tells 57 = .ok (.if_icmp .ge 11, 3) := by decide +kernel
theorem dX9_tells_60 : decode cX9_tells 60 = .ok (.iload 4, 2) := by decide +kernel
theorem dX9_tells_62 : decode cX9_tells 62 = .ok (.bipush 10, 2) := by decide +kernel
theorem dX9_tells_64 : decode cX9_tells 64 = .ok (.isub, 1) := by decide +kernel
theorem dX9_tells_65 : decode cX9_tells 65 = .ok (.goto 8, 3) := by decide +kernel
theorem dX9_tells_68 : decode cX9_tells 68 = .ok (.iload 4, 2) := by decide +kernel
theorem dX9_tells_70 : decode cX9_tells 70 = .ok (.bipush 100, 2) := by decide +kernel
theorem dX9_tells_72 : decode cX9_tells 72 = .ok (.isub, 1) := by decide +kernel
theorem dX9_tells_73 : decode cX9_tells 73 = .ok (.invokevirtual 242, 3) := by decide +kernel
theorem dX9_tells_76 : decode cX9_tells 76 = .ok (.istore 6, 2) := by decide +kernel
theorem dX9_tells_78 : decode cX9_tells 78 = .ok (.iload 6, 2) := by decide +kernel
theorem dX9_tells_80 : decode cX9_tells 80 = .ok (.ifCond .ge 6, 3) := by decide +kernel
theorem dX9_tells_83 : decode cX9_tells 83 = .ok (.bipush (-2), 2) := by decide +kernel
theorem dX9_tells_85 : decode cX9_tells 85 = .ok (.ireturn, 1) := by decide +kernel
theorem dX9_tells_86 : decode cX9_tells 86 = .ok (.aload 5, 2) := by decide +kernel
theorem dX9_tells_88 : decode cX9_tells 88 = .ok (.invokevirtual 128, 3) := by decide +kernel
theorem dX9_tells_91 : decode cX9_tells 91 = .ok (.ifCond .eq 6, 3) := by decide +kernel
theorem dX9_tells_94 : decode cX9_tells 94 = .ok (.bipush (-3), 2) := by decide +kernel
theorem dX9_tells_96 : decode cX9_tells 96 = .ok (.ireturn, 1) := by decide +kernel
theorem dX9_tells_97 : decode cX9_tells 97 = .ok (.aload_n 0, 1) := by decide +kernel
theorem dX9_tells_98 : decode cX9_tells 98 = .ok (.getfield 27, 3) := by decide +kernel
theorem dX9_tells_101 : decode cX9_tells 101 = .ok (.iload_n 1, 1) := by decide +kernel
theorem dX9_tells_102 : decode cX9_tells 102 = .ok (.aaload, 1) := by decide +kernel
theorem dX9_tells_103 : decode cX9_tells 103 = .ok (.astore 7, 2) := by decide +kernel
theorem dX9_tells_105 : decode cX9_tells 105 = .ok (.aload 7, 2) := by decide +kernel
theorem dX9_tells_107 : decode cX9_tells 107 = .ok (.invokevirtual 245, 3) := by decide +kernel
theorem dX9_tells_110 : decode cX9_tells 110 = .ok (.ifCond .eq 6, 3) := by decide +kernel
theorem dX9_tells_113 : decode cX9_tells 113 = .ok (.bipush (-11), 2) := by decide +kernel
theorem dX9_tells_115 : decode cX9_tells 115 = .ok (.ireturn, 1) := by decide +kernel
theorem dX9_tells_116 : decode cX9_tells 116 = .ok (.aload 7, 2) := by decide +kernel
theorem dX9_tells_118 : decode cX9_tells 118 = .ok (.invokevirtual 248, 3) := by decide +kernel
theorem dX9_tells_121 : decode cX9_tells 121 = .ok (.bipush 20, 2) := by decide +kernel
theorem dX9_tells_123 : decode cX9_tells 123 = .ok (.if_icmp .le 6, 3) := by decide +kernel
theorem dX9_tells_126 : decode cX9_tells 126 = .ok (.bipush (-2), 2) := by decide +kernel
theorem dX9_tells_128 : decode cX9_tells 128 = .ok (.ireturn, 1) := by decide +kernel
theorem dX9_tells_129 : decode cX9_tells 129 = .ok (.iload 4, 2) := by decide +kernel
theorem dX9_tells_131 : decode cX9_tells 131 = .ok (.tableswitch 52 0 2 #[25, 35, 43], 25) := by decide +kernel
theorem dX9_tells_156 : decode cX9_tells 156 = .ok (.aload_n 0, 1) := by decide +kernel
theorem dX9_tells_157 : decode cX9_tells 157 = .ok (.aload 7, 2) := by decide +kernel
theorem dX9_tells_159 : decode cX9_tells 159 = .ok (.aload 5, 2) := by decide +kernel
theorem dX9_tells_161 : decode cX9_tells 161 = .ok (.iload_n 3, 1) := by decide +kernel
theorem dX9_tells_162 : decode cX9_tells 162 = .ok (.invokevirtual 249, 3) := by decide +kernel
theorem dX9_tells_165 : decode cX9_tells 165 = .ok (.ireturn, 1) := by decide +kernel
theorem dX9_tells_166 : decode cX9_tells 166 = .ok (.aload_n 0, 1) := by decide +kernel
theorem dX9_tells_167 : decode cX9_tells 167 = .ok (.aload 7, 2) := by decide +kernel
theorem dX9_tells_169 : decode cX9_tells 169 = .ok (.iload_n 3, 1) := by decide +kernel
theorem dX9_tells_170 : decode cX9_tells 170 = .ok (.invokevirtual 253, 3) := by decide +kernel
theorem dX9_tells_173 : decode cX9_tells 173 = .ok (.ireturn, 1) := by decide +kernel
theorem dX9_tells_174 : decode cX9_tells 174 = .ok (.aload_n 0, 1) := by decide +kernel
theorem dX9_tells_175 : decode cX9_tells 175 = .ok (.aload 7, 2) := by decide +kernel
theorem dX9_tells_177 : decode cX9_tells 177 = .ok (.aload 5, 2) := by decide +kernel
theorem dX9_tells_179 : decode cX9_tells 179 = .ok (.invokevirtual 257, 3) := by decide +kernel
theorem dX9_tells_182 : decode cX9_tells 182 = .ok (.ireturn, 1) := by decide +kernel
theorem dX9_tells_183 : decode cX9_tells 183 = .ok (.aload_n 0, 1) := by decide +kernel
theorem dX9_tells_184 : decode cX9_tells 184 = .ok (.aload 7, 2) := by decide +kernel
theorem dX9_tells_186 : decode cX9_tells 186 = .ok (.aload 5, 2) := by decide +kernel
theorem dX9_tells_188 : decode cX9_tells 188 = .ok (.iload_n 3, 1) := by decide +kernel
theorem dX9_tells_189 : decode cX9_tells 189 = .ok (.iload 6, 2) := by decide +kernel
theorem dX9_tells_191 : decode cX9_tells 191 = .ok (.iload 4, 2) := by decide +kernel
theorem dX9_tells_193 : decode cX9_tells 193 = .ok (.bipush 100, 2) := by decide +kernel
theorem dX9_tells_195 : decode cX9_tells 195 = .ok (.if_icmp .lt 7, 3) := by decide +kernel
theorem dX9_tells_198 : decode cX9_tells 198 = .ok (.iconst 1, 1) := by decide +kernel
theorem dX9_tells_199 : decode cX9_tells 199 = .ok (.goto 4, 3) := by decide +kernel
theorem dX9_tells_202 : decode cX9_tells 202 = .ok (.iconst 0, 1) := by decide +kernel
theorem dX9_tells_203 : decode cX9_tells 203 = .ok (.invokevirtual 261, 3) := by decide +kernel
theorem dX9_tells_206 : decode cX9_tells 206 = .ok (.ireturn, 1) := by decide +kernel
theorem dX9_film_0 : decode cX9_film 0 = .ok (.iload_n 1, 1) := by decide +kernel
theorem dX9_film_1 : decode cX9_film 1 = .ok (.invokestatic 236, 3) := by decide +kernel
theorem dX9_film_4 : decode cX9_film 4 = .ok (.ifCond .eq 26, 3) := by decide +kernel
theorem dX9_film_7 : decode cX9_film 7 = .ok (.iload_n 3, 1) := by decide +kernel
theorem dX9_film_8 : decode cX9_film 8 = .ok (.invokestatic 122, 3) := by decide +kernel
theorem dX9_film_11 : decode cX9_film 11 = .ok (.ifCond .eq 19, 3) := by decide +kernel
theorem dX9_film_14 : decode cX9_film 14 = .ok (.iload 4, 2) := by decide +kernel
theorem dX9_film_16 : decode cX9_film 16 = .ok (.ifCond .lt 14, 3) := by decide +kernel
theorem dX9_film_19 : decode cX9_film 19 = .ok (.iload 4, 2) := by decide +kernel
theorem dX9_film_21 : decode cX9_film 21 = .ok (.bipush 20, 2) := by decide +kernel
theorem dX9_film_23 : decode cX9_film 23 = .ok (.if_icmp .gt 7, 3) := by decide +kernel
theorem dX9_film_26 : decode cX9_film 26 = .ok (.iconst 1, 1) := by decide +kernel
theorem dX9_film_27 : decode cX9_film 27 = .ok (.goto 4, 3) := by decide +kernel
theorem dX9_film_30 : decode cX9_film 30 = .ok (.iconst 0, 1) := by decide +kernel
theorem dX9_film_31 : decode cX9_film 31 = .ok (.istore 5, 2) := by decide +kernel
theorem dX9_film_33 : decode cX9_film 33 = .ok (.aload_n 0, 1) := by decide +kernel
theorem dX9_film_34 : decode cX9_film 34 = .ok (.iload_n 2, 1) := by decide +kernel
theorem dX9_film_35 : decode cX9_film 35 = .ok (.iload 5, 2) := by decide +kernel
theorem dX9_film_37 : decode cX9_film 37 = .ok (.invokevirtual 166, 3) := by decide +kernel
theorem dX9_film_40 : decode cX9_film 40 = .ok (.istore 6, 2) := by decide +kernel
theorem dX9_film_42 : decode cX9_film 42 = .ok (.iload 6, 2) := by decide +kernel
theorem dX9_film_44 : decode cX9_film 44 = .ok (.ifCond .eq 6, 3) := by decide +kernel
theorem dX9_film_47 : decode cX9_film 47 = .ok (.iload 6, 2) := by decide +kernel
theorem dX9_film_49 : decode cX9_film 49 = .ok (.ireturn, 1) := by decide +kernel
theorem dX9_film_50 : decode cX9_film 50 = .ok (.aload_n 0, 1) := by decide +kernel
theorem dX9_film_51 : decode cX9_film 51 = .ok (.getfield 27, 3) := by decide +kernel
theorem dX9_film_54 : decode cX9_film 54 = .ok (.iload_n 1, 1) := by decide +kernel
theorem dX9_film_55 : decode cX9_film 55 = .ok (.aaload, 1) := by decide +kernel
theorem dX9_film_56 : decode cX9_film 56 = .ok (.astore 7, 2) := by decide +kernel
theorem dX9_film_58 : decode cX9_film 58 = .ok (.aload 7, 2) := by decide +kernel
theorem dX9_film_60 : decode cX9_film 60 = .ok (.iconst 1, 1) := by decide +kernel
theorem dX9_film_61 : decode cX9_film 61 = .ok (.iload 4, 2) := by decide +kernel
theorem dX9_film_63 : decode cX9_film 63 = .ok (.invokevirtual 265, 3) := by decide +kernel
theorem dX9_film_66 : decode cX9_film 66 = .ok (.aload_n 0, 1) := by decide +kernel
theorem dX9_film_67 : decode cX9_film 67 = .ok (.invokevirtual 226, 3) := by decide +kernel
theorem dX9_film_70 : decode cX9_film 70 = .ok (.iconst 0, 1) := by decide +kernel
theorem dX9_film_71 : decode cX9_film 71 = .ok (.istore 8, 2) := by decide +kernel
theorem dX9_film_73 : decode cX9_film 73 = .ok (.iload 8, 2) := by decide +kernel
theorem dX9_film_75 : decode cX9_film 75 = .ok (.iload 4, 2) := by decide +kernel
theorem dX9_film_77 : decode cX9_film 77 = .ok (.if_icmp .ge 42, 3) := by decide +kernel
theorem dX9_film_80 : decode cX9_film 80 = .ok (.aload_n 0, 1) := by decide +kernel
theorem dX9_film_81 : decode cX9_film 81 = .ok (.getfield 34, 3) := by decide +kernel
theorem dX9_film_84 : decode cX9_film 84 = .ok (.iload_n 3, 1) := by decide +kernel
theorem dX9_film_85 : decode cX9_film 85 = .ok (.iload 8, 2) := by decide +kernel
theorem dX9_film_87 : decode cX9_film 87 = .ok (.iastore, 1) := by decide +kernel
theorem dX9_film_88 : decode cX9_film 88 = .ok (.aload 7, 2) := by decide +kernel
theorem dX9_film_90 : decode cX9_film 90 = .ok (.iload 8, 2) := by decide +kernel
theorem dX9_film_92 : decode cX9_film 92 = .ok (.aload_n 0, 1) := by decide +kernel
theorem dX9_film_93 : decode cX9_film 93 = .ok (.getfield 68, 3) := by decide +kernel
theorem dX9_film_96 : decode cX9_film 96 = .ok (.aload_n 0, 1) := by decide +kernel
theorem dX9_film_97 : decode cX9_film 97 = .ok (.getfield 11, 3) := by decide +kernel
theorem dX9_film_100 : decode cX9_film 100 = .ok (.iload_n 2, 1) := by decide +kernel
theorem dX9_film_101 : decode cX9_film 101 = .ok (.aaload, 1) := by decide +kernel
theorem dX9_film_102 : decode cX9_film 102 = .ok (.aload_n 0, 1) := by decide +kernel
theorem dX9_film_103 : decode cX9_film 103 = .ok (.getfield 34, 3) := by decide +kernel
theorem dX9_film_106 : decode cX9_film 106 = .ok (.invokevirtual 172, 3) := by decide +kernel
theorem dX9_film_109 : decode cX9_film 109 = .ok (.l2i, 1) := by decide +kernel
theorem dX9_film_110 : decode cX9_film 110 = .ok (.invokevirtual 269, 3) := by decide +kernel
theorem dX9_film_113 : decode cX9_film 113 = .ok (.iinc 8 1, 3) := by decide +kernel
theorem dX9_film_116 : decode cX9_film 116 = .ok (.goto (-43), 3) := by decide +kernel
theorem dX9_film_119 : decode cX9_film 119 = .ok (.iload 4, 2) := by decide +kernel
theorem dX9_film_121 : decode cX9_film 121 = .ok (.ireturn, 1) := by decide +kernel
theorem dX9_image_0 : decode cX9_image 0 = .ok (.iconst 0, 1) := by decide +kernel
theorem dX9_image_1 : decode cX9_image 1 = .ok (.istore_n 1, 1) := by decide +kernel
theorem dX9_image_2 : decode cX9_image 2 = .ok (.iload_n 1, 1) := by decide +kernel
theorem dX9_image_3 : decode cX9_image 3 = .ok (.bipush 12, 2) := by decide +kernel
theorem dX9_image_5 : decode cX9_image 5 = .ok (.if_icmp .ge 24, 3) := by decide +kernel
theorem dX9_image_8 : decode cX9_image 8 = .ok (.aload_n 0, 1) := by decide +kernel
theorem dX9_image_9 : decode cX9_image 9 = .ok (.getfield 15, 3) := by decide +kernel
theorem dX9_image_12 : decode cX9_image 12 = .ok (.iload_n 1, 1) := by decide +kernel
theorem dX9_image_13 : decode cX9_image 13 = .ok (.aaload, 1) := by decide +kernel
theorem dX9_image_14 : decode cX9_image 14 = .ok (.aload_n 0, 1) := by decide +kernel
theorem dX9_image_15 : decode cX9_image 15 = .ok (.getfield 11, 3) := by decide +kernel
theorem dX9_image_18 : decode cX9_image 18 = .ok (.iload_n 1, 1) := by decide +kernel
theorem dX9_image_19 : decode cX9_image 19 = .ok (.aaload, 1) := by decide +kernel
theorem dX9_image_20 : decode cX9_image 20 = .ok (.invokevirtual 135, 3) := by decide +kernel
theorem dX9_image_23 : decode cX9_image 23 = .ok (.iinc 1 1, 3) := by decide +kernel
theorem dX9_image_26 : decode cX9_image 26 = .ok (.goto (-24), 3) := by decide +kernel
theorem dX9_image_29 : decode cX9_image 29 = .ok (.aload_n 0, 1) := by decide +kernel
theorem dX9_image_30 : decode cX9_image 30 = .ok (.getfield 18, 3) := by decide +kernel
theorem dX9_image_33 : decode cX9_image 33 = .ok (.iconst 0, 1) := by decide +kernel
theorem dX9_image_34 : decode cX9_image 34 = .ok (.aload_n 0, 1) := by decide +kernel
theorem dX9_image_35 : decode cX9_image 35 = .ok (.getfield 22, 3) := by decide +kernel
theorem dX9_image_38 : decode cX9_image 38 = .ok (.iconst 0, 1) := by decide +kernel
theorem dX9_image_39 : decode cX9_image 39 = .ok (.bipush 8, 2) := by decide +kernel
theorem dX9_image_41 : decode cX9_image 41 = .ok (.invokestatic 272, 3) := by decide +kernel
theorem dX9_image_44 : decode cX9_image 44 = .ok (.aload_n 0, 1) := by decide +kernel
theorem dX9_image_45 : decode cX9_image 45 = .ok (.iconst 1, 1) := by decide +kernel
theorem dX9_image_46 : decode cX9_image 46 = .ok (.putfield 278, 3) := by decide +kernel
theorem dX9_image_49 : decode cX9_image 49 = .ok (.aload_n 0, 1) := by decide +kernel
theorem dX9_image_50 : decode cX9_image 50 = .ok (.invokevirtual 282, 3) := by decide +kernel
theorem dX9_image_53 : decode cX9_image 53 = .ok (.ireturn, 1) := by decide +kernel
theorem dX9_back_0 : decode cX9_back 0 = .ok (.aload_n 0, 1) := by decide +kernel
theorem dX9_back_1 : decode cX9_back 1 = .ok (.getfield 278, 3) := by decide +kernel
theorem dX9_back_4 : decode cX9_back 4 = .ok (.ifCond .ne 6, 3) := by decide +kernel
theorem dX9_back_7 : decode cX9_back 7 = .ok (.bipush (-3), 2) := by decide +kernel
theorem dX9_back_9 : decode cX9_back 9 = .ok (.ireturn, 1) := by decide +kernel
theorem dX9_back_10 : decode cX9_back 10 = .ok (.iconst 0, 1) := by decide +kernel
theorem dX9_back_11 : decode cX9_back 11 = .ok (.istore_n 1, 1) := by decide +kernel
theorem dX9_back_12 : decode cX9_back 12 = .ok (.iload_n 1, 1) := by decide +kernel
theorem dX9_back_13 : decode cX9_back 13 = .ok (.bipush 12, 2) := by decide +kernel
theorem dX9_back_15 : decode cX9_back 15 = .ok (.if_icmp .ge 24, 3) := by decide +kernel
theorem dX9_back_18 : decode cX9_back 18 = .ok (.aload_n 0, 1) := by decide +kernel
theorem dX9_back_19 : decode cX9_back 19 = .ok (.getfield 11, 3) := by decide +kernel
theorem dX9_back_22 : decode cX9_back 22 = .ok (.iload_n 1, 1) := by decide +kernel
theorem dX9_back_23 : decode cX9_back 23 = .ok (.aaload, 1) := by decide +kernel
theorem dX9_back_24 : decode cX9_back 24 = .ok (.aload_n 0, 1) := by decide +kernel
theorem dX9_back_25 : decode cX9_back 25 = .ok (.getfield 15, 3) := by decide +kernel
theorem dX9_back_28 : decode cX9_back 28 = .ok (.iload_n 1, 1) := by decide +kernel
theorem dX9_back_29 : decode cX9_back 29 = .ok (.aaload, 1) := by decide +kernel
theorem dX9_back_30 : decode cX9_back 30 = .ok (.invokevirtual 135, 3) := by decide +kernel
theorem dX9_back_33 : decode cX9_back 33 = .ok (.iinc 1 1, 3) := by decide +kernel
theorem dX9_back_36 : decode cX9_back 36 = .ok (.goto (-24), 3) := by decide +kernel
theorem dX9_back_39 : decode cX9_back 39 = .ok (.aload_n 0, 1) := by decide +kernel
theorem dX9_back_40 : decode cX9_back 40 = .ok (.getfield 22, 3) := by decide +kernel
theorem dX9_back_43 : decode cX9_back 43 = .ok (.iconst 0, 1) := by decide +kernel
theorem dX9_back_44 : decode cX9_back 44 = .ok (.aload_n 0, 1) := by decide +kernel
theorem dX9_back_45 : decode cX9_back 45 = .ok (.getfield 18, 3) := by decide +kernel
theorem dX9_back_48 : decode cX9_back 48 = .ok (.iconst 0, 1) := by decide +kernel
theorem dX9_back_49 : decode cX9_back 49 = .ok (.bipush 8, 2) := by decide +kernel
theorem dX9_back_51 : decode cX9_back 51 = .ok (.invokestatic 272, 3) := by decide +kernel
theorem dX9_back_54 : decode cX9_back 54 = .ok (.aload_n 0, 1) := by decide +kernel
theorem dX9_back_55 : decode cX9_back 55 = .ok (.invokevirtual 282, 3) := by decide +kernel
theorem dX9_back_58 : decode cX9_back 58 = .ok (.ireturn, 1) := by decide +kernel
theorem dX9_count_0 : decode cX9_count 0 = .ok (.iload_n 1, 1) := by decide +kernel
theorem dX9_count_1 : decode cX9_count 1 = .ok (.bipush 10, 2) := by decide +kernel
theorem dX9_count_3 : decode cX9_count 3 = .ok (.if_icmp .lt 23, 3) := by decide +kernel
theorem dX9_count_6 : decode cX9_count 6 = .ok (.iload_n 1, 1) := by decide +kernel
theorem dX9_count_7 : decode cX9_count 7 = .ok (.bipush 10, 2) := by decide +kernel
theorem dX9_count_9 : decode cX9_count 9 = .ok (.isub, 1) := by decide +kernel
theorem dX9_count_10 : decode cX9_count 10 = .ok (.invokestatic 122, 3) := by decide +kernel
theorem dX9_count_13 : decode cX9_count 13 = .ok (.ifCond .eq 13, 3) := by decide +kernel
theorem dX9_count_16 : decode cX9_count 16 = .ok (.aload_n 0, 1) := by decide +kernel
theorem dX9_count_17 : decode cX9_count 17 = .ok (.getfield 18, 3) := by decide +kernel
theorem dX9_count_20 : decode cX9_count 20 = .ok (.iload_n 1, 1) := by decide +kernel
theorem dX9_count_21 : decode cX9_count 21 = .ok (.bipush 10, 2) := by decide +kernel
theorem dX9_count_23 : decode cX9_count 23 = .ok (.isub, 1) := by decide +kernel
theorem dX9_count_24 : decode cX9_count 24 = .ok (.iaload, 1) := by decide +kernel
theorem dX9_count_25 : decode cX9_count 25 = .ok (.ireturn, 1) := by decide +kernel
theorem dX9_count_26 : decode cX9_count 26 = .ok (.iload_n 1, 1) := by decide +kernel
theorem dX9_count_27 : decode cX9_count 27 = .ok (.tableswitch 43 0 2 #[25, 30, 38], 25) := by decide +kernel
theorem dX9_count_52 : decode cX9_count 52 = .ok (.aload_n 0, 1) := by decide +kernel
theorem dX9_count_53 : decode cX9_count 53 = .ok (.invokevirtual 282, 3) := by decide +kernel
theorem dX9_count_56 : decode cX9_count 56 = .ok (.ireturn, 1) := by decide +kernel
theorem dX9_count_57 : decode cX9_count 57 = .ok (.aload_n 0, 1) := by decide +kernel
theorem dX9_count_58 : decode cX9_count 58 = .ok (.getfield 54, 3) := by decide +kernel
theorem dX9_count_61 : decode cX9_count 61 = .ok (.invokevirtual 98, 3) := by decide +kernel
theorem dX9_count_64 : decode cX9_count 64 = .ok (.ireturn, 1) := by decide +kernel
theorem dX9_count_65 : decode cX9_count 65 = .ok (.aload_n 0, 1) := by decide +kernel
theorem dX9_count_66 : decode cX9_count 66 = .ok (.invokevirtual 285, 3) := by decide +kernel
theorem dX9_count_69 : decode cX9_count 69 = .ok (.ireturn, 1) := by decide +kernel
theorem dX9_count_70 : decode cX9_count 70 = .ok (.bipush (-2), 2) := by decide +kernel
theorem dX9_count_72 : decode cX9_count 72 = .ok (.ireturn, 1) := by decide +kernel
theorem dX9_sheet_0 : decode cX9_sheet 0 = .ok (.iload_n 1, 1) := by decide +kernel
theorem dX9_sheet_1 : decode cX9_sheet 1 = .ok (.invokestatic 236, 3) := by decide +kernel
theorem dX9_sheet_4 : decode cX9_sheet 4 = .ok (.ifCond .eq 13, 3) := by decide +kernel
theorem dX9_sheet_7 : decode cX9_sheet 7 = .ok (.iload_n 2, 1) := by decide +kernel
theorem dX9_sheet_8 : decode cX9_sheet 8 = .ok (.iconst (-1), 1) := by decide +kernel
theorem dX9_sheet_9 : decode cX9_sheet 9 = .ok (.if_icmp .lt 8, 3) := by decide +kernel
theorem dX9_sheet_12 : decode cX9_sheet 12 = .ok (.iload_n 2, 1) := by decide +kernel
theorem dX9_sheet_13 : decode cX9_sheet 13 = .ok (.iconst 1, 1) := by decide +kernel
theorem dX9_sheet_14 : decode cX9_sheet 14 = .ok (.if_icmp .le 6, 3) := by decide +kernel
theorem dX9_sheet_17 : decode cX9_sheet 17 = .ok (.bipush (-2), 2) := by decide +kernel
theorem dX9_sheet_19 : decode cX9_sheet 19 = .ok (.ireturn, 1) := by decide +kernel
theorem dX9_sheet_20 : decode cX9_sheet 20 = .ok (.iload_n 2, 1) := by decide +kernel
theorem dX9_sheet_21 : decode cX9_sheet 21 = .ok (.ifCond .ge 14, 3) := by decide +kernel
theorem dX9_sheet_24 : decode cX9_sheet 24 = .ok (.aload_n 0, 1) := by decide +kernel
theorem dX9_sheet_25 : decode cX9_sheet 25 = .ok (.getfield 27, 3) := by decide +kernel
theorem dX9_sheet_28 : decode cX9_sheet 28 = .ok (.iload_n 1, 1) := by decide +kernel
theorem dX9_sheet_29 : decode cX9_sheet 29 = .ok (.aaload, 1) := by decide +kernel
theorem dX9_sheet_30 : decode cX9_sheet 30 = .ok (.invokevirtual 288, 3) := by decide +kernel
theorem dX9_sheet_33 : decode cX9_sheet 33 = .ok (.iconst 1, 1) := by decide +kernel
theorem dX9_sheet_34 : decode cX9_sheet 34 = .ok (.ireturn, 1) := by decide +kernel
theorem dX9_sheet_35 : decode cX9_sheet 35 = .ok (.iload_n 3, 1) := by decide +kernel
theorem dX9_sheet_36 : decode cX9_sheet 36 = .ok (.bipush 40, 2) := by decide +kernel
theorem dX9_sheet_38 : decode cX9_sheet 38 = .ok (.if_icmp .le 6, 3) := by decide +kernel
theorem dX9_sheet_41 : decode cX9_sheet 41 = .ok (.bipush (-2), 2) := by decide +kernel
theorem dX9_sheet_43 : decode cX9_sheet 43 = .ok (.ireturn, 1) := by decide +kernel
theorem dX9_sheet_44 : decode cX9_sheet 44 = .ok (.iload_n 3, 1) := by decide +kernel
theorem dX9_sheet_45 : decode cX9_sheet 45 = .ok (.ifCond .ge 6, 3) := by decide +kernel
theorem dX9_sheet_48 : decode cX9_sheet 48 = .ok (.bipush (-14), 2) := by decide +kernel
theorem dX9_sheet_50 : decode cX9_sheet 50 = .ok (.ireturn, 1) := by decide +kernel
theorem dX9_sheet_51 : decode cX9_sheet 51 = .ok (.aload_n 0, 1) := by decide +kernel
theorem dX9_sheet_52 : decode cX9_sheet 52 = .ok (.getfield 27, 3) := by decide +kernel
theorem dX9_sheet_55 : decode cX9_sheet 55 = .ok (.iload_n 1, 1) := by decide +kernel
theorem dX9_sheet_56 : decode cX9_sheet 56 = .ok (.aaload, 1) := by decide +kernel
theorem dX9_sheet_57 : decode cX9_sheet 57 = .ok (.iload_n 2, 1) := by decide +kernel
theorem dX9_sheet_58 : decode cX9_sheet 58 = .ok (.iload_n 3, 1) := by decide +kernel
theorem dX9_sheet_59 : decode cX9_sheet 59 = .ok (.invokevirtual 265, 3) := by decide +kernel
theorem dX9_sheet_62 : decode cX9_sheet 62 = .ok (.iconst 1, 1) := by decide +kernel
theorem dX9_sheet_63 : decode cX9_sheet 63 = .ok (.ireturn, 1) := by decide +kernel
theorem dX9_cell_0 : decode cX9_cell 0 = .ok (.iload_n 1, 1) := by decide +kernel
theorem dX9_cell_1 : decode cX9_cell 1 = .ok (.invokestatic 236, 3) := by decide +kernel
theorem dX9_cell_4 : decode cX9_cell 4 = .ok (.ifCond .ne 6, 3) := by decide +kernel
theorem dX9_cell_7 : decode cX9_cell 7 = .ok (.bipush (-2), 2) := by decide +kernel
theorem dX9_cell_9 : decode cX9_cell 9 = .ok (.ireturn, 1) := by decide +kernel
theorem dX9_cell_10 : decode cX9_cell 10 = .ok (.aload_n 0, 1) := by decide +kernel
theorem dX9_cell_11 : decode cX9_cell 11 = .ok (.getfield 27, 3) := by decide +kernel
theorem dX9_cell_14 : decode cX9_cell 14 = .ok (.iload_n 1, 1) := by decide +kernel
theorem dX9_cell_15 : decode cX9_cell 15 = .ok (.aaload, 1) := by decide +kernel
theorem dX9_cell_16 : decode cX9_cell 16 = .ok (.invokevirtual 245, 3) := by decide +kernel
theorem dX9_cell_19 : decode cX9_cell 19 = .ok (.ifCond .eq 6, 3) := by decide +kernel
theorem dX9_cell_22 : decode cX9_cell 22 = .ok (.bipush (-11), 2) := by decide +kernel
theorem dX9_cell_24 : decode cX9_cell 24 = .ok (.ireturn, 1) := by decide +kernel
theorem dX9_cell_25 : decode cX9_cell 25 = .ok (.iload_n 2, 1) := by decide +kernel
theorem dX9_cell_26 : decode cX9_cell 26 = .ok (.ifCond .lt 16, 3) := by decide +kernel
theorem dX9_cell_29 : decode cX9_cell 29 = .ok (.iload_n 2, 1) := by decide +kernel
theorem dX9_cell_30 : decode cX9_cell 30 = .ok (.aload_n 0, 1) := by decide +kernel
theorem dX9_cell_31 : decode cX9_cell 31 = .ok (.getfield 27, 3) := by decide +kernel
theorem dX9_cell_34 : decode cX9_cell 34 = .ok (.iload_n 1, 1) := by decide +kernel
theorem dX9_cell_35 : decode cX9_cell 35 = .ok (.aaload, 1) := by decide +kernel
theorem dX9_cell_36 : decode cX9_cell 36 = .ok (.invokevirtual 248, 3) := by decide +kernel
theorem dX9_cell_39 : decode cX9_cell 39 = .ok (.if_icmp .lt 6, 3) := by decide +kernel
theorem dX9_cell_42 : decode cX9_cell 42 = .ok (.bipush (-12), 2) := by decide +kernel
theorem dX9_cell_44 : decode cX9_cell 44 = .ok (.ireturn, 1) := by decide +kernel
theorem dX9_cell_45 : decode cX9_cell 45 = .ok (.aload_n 0, 1) := by decide +kernel
theorem dX9_cell_46 : decode cX9_cell 46 = .ok (.getfield 27, 3) := by decide +kernel
theorem dX9_cell_49 : decode cX9_cell 49 = .ok (.iload_n 1, 1) := by decide +kernel
theorem dX9_cell_50 : decode cX9_cell 50 = .ok (.aaload, 1) := by decide +kernel
theorem dX9_cell_51 : decode cX9_cell 51 = .ok (.iload_n 2, 1) := by decide +kernel
theorem dX9_cell_52 : decode cX9_cell 52 = .ok (.iload_n 3, 1) := by decide +kernel
theorem dX9_cell_53 : decode cX9_cell 53 = .ok (.invokevirtual 269, 3) := by decide +kernel
theorem dX9_cell_56 : decode cX9_cell 56 = .ok (.iconst 1, 1) := by decide +kernel
theorem dX9_cell_57 : decode cX9_cell 57 = .ok (.ireturn, 1) := by decide +kernel
theorem dX9_copy_0 : decode cX9_copy 0 = .ok (.iload_n 1, 1) := by decide +kernel
theorem dX9_copy_1 : decode cX9_copy 1 = .ok (.invokestatic 236, 3) := by decide +kernel
theorem dX9_copy_4 : decode cX9_copy 4 = .ok (.ifCond .eq 10, 3) := by decide +kernel
theorem dX9_copy_7 : decode cX9_copy 7 = .ok (.iload_n 3, 1) := by decide +kernel
theorem dX9_copy_8 : decode cX9_copy 8 = .ok (.invokestatic 236, 3) := by decide +kernel
theorem dX9_copy_11 : decode cX9_copy 11 = .ok (.ifCond .ne 6, 3) := by decide +kernel
theorem dX9_copy_14 : decode cX9_copy 14 = .ok (.bipush (-2), 2) := by decide +kernel
theorem dX9_copy_16 : decode cX9_copy 16 = .ok (.ireturn, 1) := by decide +kernel
theorem dX9_copy_17 : decode cX9_copy 17 = .ok (.aload_n 0, 1) := by decide +kernel
theorem dX9_copy_18 : decode cX9_copy 18 = .ok (.getfield 27, 3) := by decide +kernel
theorem dX9_copy_21 : decode cX9_copy 21 = .ok (.iload_n 1, 1) := by decide +kernel
theorem dX9_copy_22 : decode cX9_copy 22 = .ok (.aaload, 1) := by decide +kernel
theorem dX9_copy_23 : decode cX9_copy 23 = .ok (.astore 6, 2) := by decide +kernel
theorem dX9_copy_25 : decode cX9_copy 25 = .ok (.aload_n 0, 1) := by decide +kernel
theorem dX9_copy_26 : decode cX9_copy 26 = .ok (.getfield 27, 3) := by decide +kernel
theorem dX9_copy_29 : decode cX9_copy 29 = .ok (.iload_n 3, 1) := by decide +kernel
theorem dX9_copy_30 : decode cX9_copy 30 = .ok (.aaload, 1) := by decide +kernel
theorem dX9_copy_31 : decode cX9_copy 31 = .ok (.astore 7, 2) := by decide +kernel
theorem dX9_copy_33 : decode cX9_copy 33 = .ok (.aload 6, 2) := by decide +kernel
theorem dX9_copy_35 : decode cX9_copy 35 = .ok (.invokevirtual 245, 3) := by decide +kernel
theorem dX9_copy_38 : decode cX9_copy 38 = .ok (.ifCond .ne 11, 3) := by decide +kernel
theorem dX9_copy_41 : decode cX9_copy 41 = .ok (.aload 7, 2) := by decide +kernel
theorem dX9_copy_43 : decode cX9_copy 43 = .ok (.invokevirtual 245, 3) := by decide +kernel
theorem dX9_copy_46 : decode cX9_copy 46 = .ok (.ifCond .eq 6, 3) := by decide +kernel
theorem dX9_copy_49 : decode cX9_copy 49 = .ok (.bipush (-11), 2) := by decide +kernel
theorem dX9_copy_51 : decode cX9_copy 51 = .ok (.ireturn, 1) := by decide +kernel
theorem dX9_copy_52 : decode cX9_copy 52 = .ok (.aload 6, 2) := by decide +kernel
theorem dX9_copy_54 : decode cX9_copy 54 = .ok (.invokevirtual 291, 3) := by decide +kernel
theorem dX9_copy_57 : decode cX9_copy 57 = .ok (.aload 7, 2) := by decide +kernel
theorem dX9_copy_59 : decode cX9_copy 59 = .ok (.invokevirtual 291, 3) := by decide +kernel
theorem dX9_copy_62 : decode cX9_copy 62 = .ok (.if_icmp .eq 6, 3) := by decide +kernel
theorem dX9_copy_65 : decode cX9_copy 65 = .ok (.bipush (-13), 2) := by decide +kernel
theorem dX9_copy_67 : decode cX9_copy 67 = .ok (.ireturn, 1) := by decide +kernel
theorem dX9_copy_68 : decode cX9_copy 68 = .ok (.aload 6, 2) := by decide +kernel
theorem dX9_copy_70 : decode cX9_copy 70 = .ok (.iload_n 2, 1) := by decide +kernel
theorem dX9_copy_71 : decode cX9_copy 71 = .ok (.iload 5, 2) := by decide +kernel
theorem dX9_copy_73 : decode cX9_copy 73 = .ok (.invokevirtual 294, 3) := by decide +kernel
theorem dX9_copy_76 : decode cX9_copy 76 = .ok (.ifCond .eq 15, 3) := by decide +kernel
theorem dX9_copy_79 : decode cX9_copy 79 = .ok (.aload 7, 2) := by decide +kernel
theorem dX9_copy_81 : decode cX9_copy 81 = .ok (.iload 4, 2) := by decide +kernel
theorem dX9_copy_83 : decode cX9_copy 83 = .ok (.iload 5, 2) := by decide +kernel
theorem dX9_copy_85 : decode cX9_copy 85 = .ok (.invokevirtual 294, 3) := by decide +kernel
theorem dX9_copy_88 : decode cX9_copy 88 = .ok (.ifCond .ne 6, 3) := by decide +kernel
theorem dX9_copy_91 : decode cX9_copy 91 = .ok (.bipush (-12), 2) := by decide +kernel
theorem dX9_copy_93 : decode cX9_copy 93 = .ok (.ireturn, 1) := by decide +kernel
theorem dX9_copy_94 : decode cX9_copy 94 = .ok (.aload 7, 2) := by decide +kernel
theorem dX9_copy_96 : decode cX9_copy 96 = .ok (.iload 4, 2) := by decide +kernel
theorem dX9_copy_98 : decode cX9_copy 98 = .ok (.aload 6, 2) := by decide +kernel
theorem dX9_copy_100 : decode cX9_copy 100 = .ok (.iload_n 2, 1) := by decide +kernel
theorem dX9_copy_101 : decode cX9_copy 101 = .ok (.iload 5, 2) := by decide +kernel
theorem dX9_copy_103 : decode cX9_copy 103 = .ok (.invokevirtual 298, 3) := by decide +kernel
theorem dX9_copy_106 : decode cX9_copy 106 = .ok (.iload 5, 2) := by decide +kernel
theorem dX9_copy_108 : decode cX9_copy 108 = .ok (.ireturn, 1) := by decide +kernel
theorem dX9_isByte_0 : decode cX9_isByte 0 = .ok (.iload_n 0, 1) := by decide +kernel
theorem dX9_isByte_1 : decode cX9_isByte 1 = .ok (.ifCond .lt 14, 3) := by decide +kernel
theorem dX9_isByte_4 : decode cX9_isByte 4 = .ok (.iload_n 0, 1) := by decide +kernel
theorem dX9_isByte_5 : decode cX9_isByte 5 = .ok (.sipush 255, 3) := by decide +kernel
theorem dX9_isByte_8 : decode cX9_isByte 8 = .ok (.if_icmp .gt 7, 3) := by decide +kernel
theorem dX9_isByte_11 : decode cX9_isByte 11 = .ok (.iconst 1, 1) := by decide +kernel
theorem dX9_isByte_12 : decode cX9_isByte 12 = .ok (.goto 4, 3) := by decide +kernel
theorem dX9_isByte_15 : decode cX9_isByte 15 = .ok (.iconst 0, 1) := by decide +kernel
theorem dX9_isByte_16 : decode cX9_isByte 16 = .ok (.ireturn, 1) := by decide +kernel
theorem dX9_isFormula_0 : decode cX9_isFormula 0 = .ok (.iload_n 0, 1) := by decide +kernel
theorem dX9_isFormula_1 : decode cX9_isFormula 1 = .ok (.ifCond .lt 13, 3) := by decide +kernel
theorem dX9_isFormula_4 : decode cX9_isFormula 4 = .ok (.iload_n 0, 1) := by decide +kernel
theorem dX9_isFormula_5 : decode cX9_isFormula 5 = .ok (.bipush 12, 2) := by decide +kernel
theorem dX9_isFormula_7 : decode cX9_isFormula 7 = .ok (.if_icmp .ge 7, 3) := by decide +kernel
theorem dX9_isFormula_10 : decode cX9_isFormula 10 = .ok (.iconst 1, 1) := by decide +kernel
theorem dX9_isFormula_11 : decode cX9_isFormula 11 = .ok (.goto 4, 3) := by decide +kernel
theorem dX9_isFormula_14 : decode cX9_isFormula 14 = .ok (.iconst 0, 1) := by decide +kernel
theorem dX9_isFormula_15 : decode cX9_isFormula 15 = .ok (.ireturn, 1) := by decide +kernel
theorem dX9_isName_0 : decode cX9_isName 0 = .ok (.iload_n 0, 1) := by decide +kernel
theorem dX9_isName_1 : decode cX9_isName 1 = .ok (.ifCond .lt 13, 3) := by decide +kernel
theorem dX9_isName_4 : decode cX9_isName 4 = .ok (.iload_n 0, 1) := by decide +kernel
theorem dX9_isName_5 : decode cX9_isName 5 = .ok (.bipush 8, 2) := by decide +kernel
theorem dX9_isName_7 : decode cX9_isName 7 = .ok (.if_icmp .ge 7, 3) := by decide +kernel
theorem dX9_isName_10 : decode cX9_isName 10 = .ok (.iconst 1, 1) := by decide +kernel
theorem dX9_isName_11 : decode cX9_isName 11 = .ok (.goto 4, 3) := by decide +kernel
theorem dX9_isName_14 : decode cX9_isName 14 = .ok (.iconst 0, 1) := by decide +kernel
theorem dX9_isName_15 : decode cX9_isName 15 = .ok (.ireturn, 1) := by decide +kernel
theorem dX9_isKind_0 : decode cX9_isKind 0 = .ok (.iload_n 0, 1) := by decide +kernel
theorem dX9_isKind_1 : decode cX9_isKind 1 = .ok (.ifCond .lt 13, 3) := by decide +kernel
theorem dX9_isKind_4 : decode cX9_isKind 4 = .ok (.iload_n 0, 1) := by decide +kernel
theorem dX9_isKind_5 : decode cX9_isKind 5 = .ok (.bipush 8, 2) := by decide +kernel
theorem dX9_isKind_7 : decode cX9_isKind 7 = .ok (.if_icmp .ge 7, 3) := by decide +kernel
theorem dX9_isKind_10 : decode cX9_isKind 10 = .ok (.iconst 1, 1) := by decide +kernel
theorem dX9_isKind_11 : decode cX9_isKind 11 = .ok (.goto 4, 3) := by decide +kernel
theorem dX9_isKind_14 : decode cX9_isKind 14 = .ok (.iconst 0, 1) := by decide +kernel
theorem dX9_isKind_15 : decode cX9_isKind 15 = .ok (.ireturn, 1) := by decide +kernel
theorem dX9_isSheet_0 : decode cX9_isSheet 0 = .ok (.iload_n 0, 1) := by decide +kernel
theorem dX9_isSheet_1 : decode cX9_isSheet 1 = .ok (.ifCond .lt 12, 3) := by decide +kernel
theorem dX9_isSheet_4 : decode cX9_isSheet 4 = .ok (.iload_n 0, 1) := by decide +kernel
theorem dX9_isSheet_5 : decode cX9_isSheet 5 = .ok (.iconst 4, 1) := by decide +kernel
theorem dX9_isSheet_6 : decode cX9_isSheet 6 = .ok (.if_icmp .ge 7, 3) := by decide +kernel
theorem dX9_isSheet_9 : decode cX9_isSheet 9 = .ok (.iconst 1, 1) := by decide +kernel
theorem dX9_isSheet_10 : decode cX9_isSheet 10 = .ok (.goto 4, 3) := by decide +kernel
theorem dX9_isSheet_13 : decode cX9_isSheet 13 = .ok (.iconst 0, 1) := by decide +kernel
theorem dX9_isSheet_14 : decode cX9_isSheet 14 = .ok (.ireturn, 1) := by decide +kernel
theorem dX9_isTurn_0 : decode cX9_isTurn 0 = .ok (.iload_n 0, 1) := by decide +kernel
theorem dX9_isTurn_1 : decode cX9_isTurn 1 = .ok (.ifCond .eq 46, 3) := by decide +kernel
theorem dX9_isTurn_4 : decode cX9_isTurn 4 = .ok (.iload_n 0, 1) := by decide +kernel
theorem dX9_isTurn_5 : decode cX9_isTurn 5 = .ok (.iconst 1, 1) := by decide +kernel
theorem dX9_isTurn_6 : decode cX9_isTurn 6 = .ok (.if_icmp .eq 41, 3) := by decide +kernel
theorem dX9_isTurn_9 : decode cX9_isTurn 9 = .ok (.iload_n 0, 1) := by decide +kernel
theorem dX9_isTurn_10 : decode cX9_isTurn 10 = .ok (.bipush 30, 2) := by decide +kernel
theorem dX9_isTurn_12 : decode cX9_isTurn 12 = .ok (.if_icmp .eq 35, 3) := by decide +kernel
theorem dX9_isTurn_15 : decode cX9_isTurn 15 = .ok (.iload_n 0, 1) := by decide +kernel
theorem dX9_isTurn_16 : decode cX9_isTurn 16 = .ok (.bipush 10, 2) := by decide +kernel
theorem dX9_isTurn_18 : decode cX9_isTurn 18 = .ok (.if_icmp .lt 13, 3) := by decide +kernel
theorem dX9_isTurn_21 : decode cX9_isTurn 21 = .ok (.iload_n 0, 1) := by decide +kernel
theorem dX9_isTurn_22 : decode cX9_isTurn 22 = .ok (.bipush 10, 2) := by decide +kernel
theorem dX9_isTurn_24 : decode cX9_isTurn 24 = .ok (.isub, 1) := by decide +kernel
theorem dX9_isTurn_25 : decode cX9_isTurn 25 = .ok (.invokestatic 122, 3) := by decide +kernel
theorem dX9_isTurn_28 : decode cX9_isTurn 28 = .ok (.ifCond .ne 19, 3) := by decide +kernel
theorem dX9_isTurn_31 : decode cX9_isTurn 31 = .ok (.iload_n 0, 1) := by decide +kernel
theorem dX9_isTurn_32 : decode cX9_isTurn 32 = .ok (.bipush 20, 2) := by decide +kernel
theorem dX9_isTurn_34 : decode cX9_isTurn 34 = .ok (.if_icmp .lt 17, 3) := by decide +kernel
theorem dX9_isTurn_37 : decode cX9_isTurn 37 = .ok (.iload_n 0, 1) := by decide +kernel
theorem dX9_isTurn_38 : decode cX9_isTurn 38 = .ok (.bipush 20, 2) := by decide +kernel
theorem dX9_isTurn_40 : decode cX9_isTurn 40 = .ok (.isub, 1) := by decide +kernel
theorem dX9_isTurn_41 : decode cX9_isTurn 41 = .ok (.invokestatic 122, 3) := by decide +kernel
theorem dX9_isTurn_44 : decode cX9_isTurn 44 = .ok (.ifCond .eq 7, 3) := by decide +kernel
theorem dX9_isTurn_47 : decode cX9_isTurn 47 = .ok (.iconst 1, 1) := by decide +kernel
theorem dX9_isTurn_48 : decode cX9_isTurn 48 = .ok (.goto 4, 3) := by decide +kernel
theorem dX9_isTurn_51 : decode cX9_isTurn 51 = .ok (.iconst 0, 1) := by decide +kernel
theorem dX9_isTurn_52 : decode cX9_isTurn 52 = .ok (.ireturn, 1) := by decide +kernel
theorem dX9_isQuestion_0 : decode cX9_isQuestion 0 = .ok (.iload_n 0, 1) := by decide +kernel
theorem dX9_isQuestion_1 : decode cX9_isQuestion 1 = .ok (.ifCond .lt 8, 3) := by decide +kernel
theorem dX9_isQuestion_4 : decode cX9_isQuestion 4 = .ok (.iload_n 0, 1) := by decide +kernel
theorem dX9_isQuestion_5 : decode cX9_isQuestion 5 = .ok (.iconst 2, 1) := by decide +kernel
theorem dX9_isQuestion_6 : decode cX9_isQuestion 6 = .ok (.if_icmp .le 28, 3) := by decide +kernel
theorem dX9_isQuestion_9 : decode cX9_isQuestion 9 = .ok (.iload_n 0, 1) := by decide +kernel
theorem dX9_isQuestion_10 : decode cX9_isQuestion 10 = .ok (.bipush 10, 2) := by decide +kernel
theorem dX9_isQuestion_12 : decode cX9_isQuestion 12 = .ok (.if_icmp .lt 9, 3) := by decide +kernel
theorem dX9_isQuestion_15 : decode cX9_isQuestion 15 = .ok (.iload_n 0, 1) := by decide +kernel
theorem dX9_isQuestion_16 : decode cX9_isQuestion 16 = .ok (.bipush 50, 2) := by decide +kernel
theorem dX9_isQuestion_18 : decode cX9_isQuestion 18 = .ok (.if_icmp .le 16, 3) := by decide +kernel
theorem dX9_isQuestion_21 : decode cX9_isQuestion 21 = .ok (.iload_n 0, 1) := by decide +kernel
theorem dX9_isQuestion_22 : decode cX9_isQuestion 22 = .ok (.bipush 100, 2) := by decide +kernel
theorem dX9_isQuestion_24 : decode cX9_isQuestion 24 = .ok (.if_icmp .lt 14, 3) := by decide +kernel
theorem dX9_isQuestion_27 : decode cX9_isQuestion 27 = .ok (.iload_n 0, 1) := by decide +kernel
theorem dX9_isQuestion_28 : decode cX9_isQuestion 28 = .ok (.sipush 140, 3) := by decide +kernel
theorem dX9_isQuestion_31 : decode cX9_isQuestion 31 = .ok (.if_icmp .gt 7, 3) := by decide +kernel
theorem dX9_isQuestion_34 : decode cX9_isQuestion 34 = .ok (.iconst 1, 1) := by decide +kernel
theorem dX9_isQuestion_35 : decode cX9_isQuestion 35 = .ok (.goto 4, 3) := by decide +kernel
theorem dX9_isQuestion_38 : decode cX9_isQuestion 38 = .ok (.iconst 0, 1) := by decide +kernel
theorem dX9_isQuestion_39 : decode cX9_isQuestion 39 = .ok (.ireturn, 1) := by decide +kernel
theorem dX9_refusalOf_0 : decode cX9_refusalOf 0 = .ok (.iload_n 1, 1) := by decide +kernel
theorem dX9_refusalOf_1 : decode cX9_refusalOf 1 = .ok (.invokestatic 106, 3) := by decide +kernel
theorem dX9_refusalOf_4 : decode cX9_refusalOf 4 = .ok (.ifCond .eq 7, 3) := by decide +kernel
theorem dX9_refusalOf_7 : decode cX9_refusalOf 7 = .ok (.iload_n 2, 1) := by decide +kernel
theorem dX9_refusalOf_8 : decode cX9_refusalOf 8 = .ok (.ifCond .ne 6, 3) := by decide +kernel
theorem dX9_refusalOf_11 : decode cX9_refusalOf 11 = .ok (.bipush (-2), 2) := by decide +kernel
theorem dX9_refusalOf_13 : decode cX9_refusalOf 13 = .ok (.ireturn, 1) := by decide +kernel
theorem dX9_refusalOf_14 : decode cX9_refusalOf 14 = .ok (.aload_n 0, 1) := by decide +kernel
theorem dX9_refusalOf_15 : decode cX9_refusalOf 15 = .ok (.getfield 11, 3) := by decide +kernel
theorem dX9_refusalOf_18 : decode cX9_refusalOf 18 = .ok (.iload_n 1, 1) := by decide +kernel
theorem dX9_refusalOf_19 : decode cX9_refusalOf 19 = .ok (.aaload, 1) := by decide +kernel
theorem dX9_refusalOf_20 : decode cX9_refusalOf 20 = .ok (.invokevirtual 128, 3) := by decide +kernel
theorem dX9_refusalOf_23 : decode cX9_refusalOf 23 = .ok (.ifCond .eq 8, 3) := by decide +kernel
theorem dX9_refusalOf_26 : decode cX9_refusalOf 26 = .ok (.bipush (-3), 2) := by decide +kernel
theorem dX9_refusalOf_28 : decode cX9_refusalOf 28 = .ok (.goto 4, 3) := by decide +kernel
theorem dX9_refusalOf_31 : decode cX9_refusalOf 31 = .ok (.iconst 0, 1) := by decide +kernel
theorem dX9_refusalOf_32 : decode cX9_refusalOf 32 = .ok (.ireturn, 1) := by decide +kernel
theorem dX9_refusalOfNode_0 : decode cX9_refusalOfNode 0 = .ok (.aload_n 0, 1) := by decide +kernel
theorem dX9_refusalOfNode_1 : decode cX9_refusalOfNode 1 = .ok (.iload_n 1, 1) := by decide +kernel
theorem dX9_refusalOfNode_2 : decode cX9_refusalOfNode 2 = .ok (.iload_n 3, 1) := by decide +kernel
theorem dX9_refusalOfNode_3 : decode cX9_refusalOfNode 3 = .ok (.invokevirtual 166, 3) := by decide +kernel
theorem dX9_refusalOfNode_6 : decode cX9_refusalOfNode 6 = .ok (.istore 4, 2) := by decide +kernel
theorem dX9_refusalOfNode_8 : decode cX9_refusalOfNode 8 = .ok (.iload 4, 2) := by decide +kernel
theorem dX9_refusalOfNode_10 : decode cX9_refusalOfNode 10 = .ok (.ifCond .eq 6, 3) := by decide +kernel
theorem dX9_refusalOfNode_13 : decode cX9_refusalOfNode 13 = .ok (.iload 4, 2) := by decide +kernel
theorem dX9_refusalOfNode_15 : decode cX9_refusalOfNode 15 = .ok (.ireturn, 1) := by decide +kernel
theorem dX9_refusalOfNode_16 : decode cX9_refusalOfNode 16 = .ok (.aload_n 0, 1) := by decide +kernel
theorem dX9_refusalOfNode_17 : decode cX9_refusalOfNode 17 = .ok (.getfield 11, 3) := by decide +kernel
theorem dX9_refusalOfNode_20 : decode cX9_refusalOfNode 20 = .ok (.iload_n 1, 1) := by decide +kernel
theorem dX9_refusalOfNode_21 : decode cX9_refusalOfNode 21 = .ok (.aaload, 1) := by decide +kernel
theorem dX9_refusalOfNode_22 : decode cX9_refusalOfNode 22 = .ok (.iload_n 2, 1) := by decide +kernel
theorem dX9_refusalOfNode_23 : decode cX9_refusalOfNode 23 = .ok (.invokevirtual 302, 3) := by decide +kernel
theorem dX9_refusalOfNode_26 : decode cX9_refusalOfNode 26 = .ok (.ifCond .eq 7, 3) := by decide +kernel
theorem dX9_refusalOfNode_29 : decode cX9_refusalOfNode 29 = .ok (.iconst 0, 1) := by decide +kernel
theorem dX9_refusalOfNode_30 : decode cX9_refusalOfNode 30 = .ok (.goto 5, 3) := by decide +kernel
theorem dX9_refusalOfNode_33 : decode cX9_refusalOfNode 33 = .ok (.bipush (-12), 2) := by decide +kernel
theorem dX9_refusalOfNode_35 : decode cX9_refusalOfNode 35 = .ok (.ireturn, 1) := by decide +kernel
theorem dX9_turnedRoot_0 : decode cX9_turnedRoot 0 = .ok (.iload_n 2, 1) := by decide +kernel
theorem dX9_turnedRoot_1 : decode cX9_turnedRoot 1 = .ok (.iconst 1, 1) := by decide +kernel
theorem dX9_turnedRoot_2 : decode cX9_turnedRoot 2 = .ok (.if_icmp .ne 12, 3) := by decide +kernel
theorem dX9_turnedRoot_5 : decode cX9_turnedRoot 5 = .ok (.aload_n 0, 1) := by decide +kernel
theorem dX9_turnedRoot_6 : decode cX9_turnedRoot 6 = .ok (.getfield 61, 3) := by decide +kernel
theorem dX9_turnedRoot_9 : decode cX9_turnedRoot 9 = .ok (.aload_n 1, 1) := by decide +kernel
theorem dX9_turnedRoot_10 : decode cX9_turnedRoot 10 = .ok (.invokevirtual 305, 3) := by decide +kernel
theorem dX9_turnedRoot_13 : decode cX9_turnedRoot 13 = .ok (.ireturn, 1) := by decide +kernel
theorem dX9_turnedRoot_14 : decode cX9_turnedRoot 14 = .ok (.iload_n 2, 1) := by decide +kernel
theorem dX9_turnedRoot_15 : decode cX9_turnedRoot 15 = .ok (.bipush 20, 2) := by decide +kernel
theorem dX9_turnedRoot_17 : decode cX9_turnedRoot 17 = .ok (.if_icmp .ge 16, 3) := by decide +kernel
theorem dX9_turnedRoot_20 : decode cX9_turnedRoot 20 = .ok (.aload_n 0, 1) := by decide +kernel
theorem dX9_turnedRoot_21 : decode cX9_turnedRoot 21 = .ok (.getfield 61, 3) := by decide +kernel
theorem dX9_turnedRoot_24 : decode cX9_turnedRoot 24 = .ok (.aload_n 1, 1) := by decide +kernel
theorem dX9_turnedRoot_25 : decode cX9_turnedRoot 25 = .ok (.iload_n 2, 1) := by decide +kernel
theorem dX9_turnedRoot_26 : decode cX9_turnedRoot 26 = .ok (.bipush 10, 2) := by decide +kernel
theorem dX9_turnedRoot_28 : decode cX9_turnedRoot 28 = .ok (.isub, 1) := by decide +kernel
theorem dX9_turnedRoot_29 : decode cX9_turnedRoot 29 = .ok (.invokevirtual 308, 3) := by decide +kernel
theorem dX9_turnedRoot_32 : decode cX9_turnedRoot 32 = .ok (.ireturn, 1) := by decide +kernel
theorem dX9_turnedRoot_33 : decode cX9_turnedRoot 33 = .ok (.aload_n 0, 1) := by decide +kernel
theorem dX9_turnedRoot_34 : decode cX9_turnedRoot 34 = .ok (.getfield 61, 3) := by decide +kernel
theorem dX9_turnedRoot_37 : decode cX9_turnedRoot 37 = .ok (.aload_n 1, 1) := by decide +kernel
theorem dX9_turnedRoot_38 : decode cX9_turnedRoot 38 = .ok (.iload_n 2, 1) := by decide +kernel
theorem dX9_turnedRoot_39 : decode cX9_turnedRoot 39 = .ok (.bipush 20, 2) := by decide +kernel
theorem dX9_turnedRoot_41 : decode cX9_turnedRoot 41 = .ok (.isub, 1) := by decide +kernel
theorem dX9_turnedRoot_42 : decode cX9_turnedRoot 42 = .ok (.aload_n 0, 1) := by decide +kernel
theorem dX9_turnedRoot_43 : decode cX9_turnedRoot 43 = .ok (.getfield 11, 3) := by decide +kernel
theorem dX9_turnedRoot_46 : decode cX9_turnedRoot 46 = .ok (.iload_n 3, 1) := by decide +kernel
theorem dX9_turnedRoot_47 : decode cX9_turnedRoot 47 = .ok (.aaload, 1) := by decide +kernel
theorem dX9_turnedRoot_48 : decode cX9_turnedRoot 48 = .ok (.invokevirtual 311, 3) := by decide +kernel
theorem dX9_turnedRoot_51 : decode cX9_turnedRoot 51 = .ok (.ireturn, 1) := by decide +kernel
theorem dX9_sharedBy_0 : decode cX9_sharedBy 0 = .ok (.iconst 0, 1) := by decide +kernel
theorem dX9_sharedBy_1 : decode cX9_sharedBy 1 = .ok (.istore_n 2, 1) := by decide +kernel
theorem dX9_sharedBy_2 : decode cX9_sharedBy 2 = .ok (.iconst 0, 1) := by decide +kernel
theorem dX9_sharedBy_3 : decode cX9_sharedBy 3 = .ok (.istore_n 3, 1) := by decide +kernel
theorem dX9_sharedBy_4 : decode cX9_sharedBy 4 = .ok (.iload_n 3, 1) := by decide +kernel
theorem dX9_sharedBy_5 : decode cX9_sharedBy 5 = .ok (.aload_n 0, 1) := by decide +kernel
theorem dX9_sharedBy_6 : decode cX9_sharedBy 6 = .ok (.invokevirtual 119, 3) := by decide +kernel
theorem dX9_sharedBy_9 : decode cX9_sharedBy 9 = .ok (.if_icmp .ge 53, 3) := by decide +kernel
theorem dX9_sharedBy_12 : decode cX9_sharedBy 12 = .ok (.iconst 0, 1) := by decide +kernel
theorem dX9_sharedBy_13 : decode cX9_sharedBy 13 = .ok (.istore 4, 2) := by decide +kernel
theorem dX9_sharedBy_15 : decode cX9_sharedBy 15 = .ok (.iload 4, 2) := by decide +kernel
theorem dX9_sharedBy_17 : decode cX9_sharedBy 17 = .ok (.aload_n 1, 1) := by decide +kernel
theorem dX9_sharedBy_18 : decode cX9_sharedBy 18 = .ok (.invokevirtual 119, 3) := by decide +kernel
theorem dX9_sharedBy_21 : decode cX9_sharedBy 21 = .ok (.if_icmp .ge 35, 3) := by decide +kernel
theorem dX9_sharedBy_24 : decode cX9_sharedBy 24 = .ok (.aload_n 0, 1) := by decide +kernel
theorem dX9_sharedBy_25 : decode cX9_sharedBy 25 = .ok (.iload_n 3, 1) := by decide +kernel
theorem dX9_sharedBy_26 : decode cX9_sharedBy 26 = .ok (.invokevirtual 158, 3) := by decide +kernel
theorem dX9_sharedBy_29 : decode cX9_sharedBy 29 = .ok (.iload_n 2, 1) := by decide +kernel
theorem dX9_sharedBy_30 : decode cX9_sharedBy 30 = .ok (.if_icmp .le 26, 3) := by decide +kernel
theorem dX9_sharedBy_33 : decode cX9_sharedBy 33 = .ok (.aload_n 0, 1) := by decide +kernel
theorem dX9_sharedBy_34 : decode cX9_sharedBy 34 = .ok (.iload_n 3, 1) := by decide +kernel
theorem dX9_sharedBy_35 : decode cX9_sharedBy 35 = .ok (.aload_n 1, 1) := by decide +kernel
theorem dX9_sharedBy_36 : decode cX9_sharedBy 36 = .ok (.iload 4, 2) := by decide +kernel
theorem dX9_sharedBy_38 : decode cX9_sharedBy 38 = .ok (.invokevirtual 212, 3) := by decide +kernel
theorem dX9_sharedBy_41 : decode cX9_sharedBy 41 = .ok (.ifCond .eq 9, 3) := by decide +kernel
theorem dX9_sharedBy_44 : decode cX9_sharedBy 44 = .ok (.aload_n 0, 1) := by decide +kernel
theorem dX9_sharedBy_45 : decode cX9_sharedBy 45 = .ok (.iload_n 3, 1) := by decide +kernel
theorem dX9_sharedBy_46 : decode cX9_sharedBy 46 = .ok (.invokevirtual 158, 3) := by decide +kernel
theorem dX9_sharedBy_49 : decode cX9_sharedBy 49 = .ok (.istore_n 2, 1) := by decide +kernel
theorem dX9_sharedBy_50 : decode cX9_sharedBy 50 = .ok (.iinc 4 1, 3) := by decide +kernel
theorem dX9_sharedBy_53 : decode cX9_sharedBy 53 = .ok (.goto (-38), 3) := by decide +kernel
theorem dX9_sharedBy_56 : decode cX9_sharedBy 56 = .ok (.iinc 3 1, 3) := by decide +kernel
theorem dX9_sharedBy_59 : decode cX9_sharedBy 59 = .ok (.goto (-55), 3) := by decide +kernel
theorem dX9_sharedBy_62 : decode cX9_sharedBy 62 = .ok (.iload_n 2, 1) := by decide +kernel
theorem dX9_sharedBy_63 : decode cX9_sharedBy 63 = .ok (.ireturn, 1) := by decide +kernel
theorem dX9_unlikeOf_0 : decode cX9_unlikeOf 0 = .ok (.iconst 0, 1) := by decide +kernel
theorem dX9_unlikeOf_1 : decode cX9_unlikeOf 1 = .ok (.istore_n 1, 1) := by decide +kernel
theorem dX9_unlikeOf_2 : decode cX9_unlikeOf 2 = .ok (.iconst 0, 1) := by decide +kernel
theorem dX9_unlikeOf_3 : decode cX9_unlikeOf 3 = .ok (.istore_n 2, 1) := by decide +kernel
theorem dX9_unlikeOf_4 : decode cX9_unlikeOf 4 = .ok (.iload_n 2, 1) := by decide +kernel
theorem dX9_unlikeOf_5 : decode cX9_unlikeOf 5 = .ok (.aload_n 0, 1) := by decide +kernel
theorem dX9_unlikeOf_6 : decode cX9_unlikeOf 6 = .ok (.invokevirtual 119, 3) := by decide +kernel
theorem dX9_unlikeOf_9 : decode cX9_unlikeOf 9 = .ok (.if_icmp .ge 54, 3) := by decide +kernel
theorem dX9_unlikeOf_12 : decode cX9_unlikeOf 12 = .ok (.iconst 1, 1) := by decide +kernel
theorem dX9_unlikeOf_13 : decode cX9_unlikeOf 13 = .ok (.istore_n 3, 1) := by decide +kernel
theorem dX9_unlikeOf_14 : decode cX9_unlikeOf 14 = .ok (.iconst 0, 1) := by decide +kernel
theorem dX9_unlikeOf_15 : decode cX9_unlikeOf 15 = .ok (.istore 4, 2) := by decide +kernel
theorem dX9_unlikeOf_17 : decode cX9_unlikeOf 17 = .ok (.iload 4, 2) := by decide +kernel
theorem dX9_unlikeOf_19 : decode cX9_unlikeOf 19 = .ok (.iload_n 2, 1) := by decide +kernel
theorem dX9_unlikeOf_20 : decode cX9_unlikeOf 20 = .ok (.if_icmp .ge 30, 3) := by decide +kernel
theorem dX9_unlikeOf_23 : decode cX9_unlikeOf 23 = .ok (.iload_n 3, 1) := by decide +kernel
theorem dX9_unlikeOf_24 : decode cX9_unlikeOf 24 = .ok (.ifCond .eq 26, 3) := by decide +kernel
theorem dX9_unlikeOf_27 : decode cX9_unlikeOf 27 = .ok (.aload_n 0, 1) := by decide +kernel
theorem dX9_unlikeOf_28 : decode cX9_unlikeOf 28 = .ok (.iload_n 2, 1) := by decide +kernel
theorem dX9_unlikeOf_29 : decode cX9_unlikeOf 29 = .ok (.aload_n 0, 1) := by decide +kernel
theorem dX9_unlikeOf_30 : decode cX9_unlikeOf 30 = .ok (.iload 4, 2) := by decide +kernel
theorem dX9_unlikeOf_32 : decode cX9_unlikeOf 32 = .ok (.invokevirtual 212, 3) := by decide +kernel
theorem dX9_unlikeOf_35 : decode cX9_unlikeOf 35 = .ok (.ifCond .ne 7, 3) := by decide +kernel
theorem dX9_unlikeOf_38 : decode cX9_unlikeOf 38 = .ok (.iconst 1, 1) := by decide +kernel
theorem dX9_unlikeOf_39 : decode cX9_unlikeOf 39 = .ok (.goto 4, 3) := by decide +kernel
theorem dX9_unlikeOf_42 : decode cX9_unlikeOf 42 = .ok (.iconst 0, 1) := by decide +kernel
theorem dX9_unlikeOf_43 : decode cX9_unlikeOf 43 = .ok (.istore_n 3, 1) := by decide +kernel
theorem dX9_unlikeOf_44 : decode cX9_unlikeOf 44 = .ok (.iinc 4 1, 3) := by decide +kernel
theorem dX9_unlikeOf_47 : decode cX9_unlikeOf 47 = .ok (.goto (-30), 3) := by decide +kernel
theorem dX9_unlikeOf_50 : decode cX9_unlikeOf 50 = .ok (.iload_n 3, 1) := by decide +kernel
theorem dX9_unlikeOf_51 : decode cX9_unlikeOf 51 = .ok (.ifCond .eq 6, 3) := by decide +kernel
theorem dX9_unlikeOf_54 : decode cX9_unlikeOf 54 = .ok (.iinc 1 1, 3) := by decide +kernel
theorem dX9_unlikeOf_57 : decode cX9_unlikeOf 57 = .ok (.iinc 2 1, 3) := by decide +kernel
theorem dX9_unlikeOf_60 : decode cX9_unlikeOf 60 = .ok (.goto (-56), 3) := by decide +kernel
theorem dX9_unlikeOf_63 : decode cX9_unlikeOf 63 = .ok (.iload_n 1, 1) := by decide +kernel
theorem dX9_unlikeOf_64 : decode cX9_unlikeOf 64 = .ok (.ireturn, 1) := by decide +kernel
theorem dX9_supposeValues_0 : decode cX9_supposeValues 0 = .ok (.aload_n 0, 1) := by decide +kernel
theorem dX9_supposeValues_1 : decode cX9_supposeValues 1 = .ok (.getfield 18, 3) := by decide +kernel
theorem dX9_supposeValues_4 : decode cX9_supposeValues 4 = .ok (.iconst 0, 1) := by decide +kernel
theorem dX9_supposeValues_5 : decode cX9_supposeValues 5 = .ok (.aload_n 0, 1) := by decide +kernel
theorem dX9_supposeValues_6 : decode cX9_supposeValues 6 = .ok (.getfield 34, 3) := by decide +kernel
theorem dX9_supposeValues_9 : decode cX9_supposeValues 9 = .ok (.iconst 0, 1) := by decide +kernel
theorem dX9_supposeValues_10 : decode cX9_supposeValues 10 = .ok (.bipush 8, 2) := by decide +kernel
theorem dX9_supposeValues_12 : decode cX9_supposeValues 12 = .ok (.invokestatic 272, 3) := by decide +kernel
theorem dX9_supposeValues_15 : decode cX9_supposeValues 15 = .ok (.return_, 1) := by decide +kernel
theorem dX9_drawnWorth_0 : decode cX9_drawnWorth 0 = .ok (.iload_n 2, 1) := by decide +kernel
theorem dX9_drawnWorth_1 : decode cX9_drawnWorth 1 = .ok (.istore_n 3, 1) := by decide +kernel
theorem dX9_drawnWorth_2 : decode cX9_drawnWorth 2 = .ok (.iconst 0, 1) := by decide +kernel
theorem dX9_drawnWorth_3 : decode cX9_drawnWorth 3 = .ok (.istore 4, 2) := by decide +kernel
theorem dX9_drawnWorth_5 : decode cX9_drawnWorth 5 = .ok (.iload 4, 2) := by decide +kernel
theorem dX9_drawnWorth_7 : decode cX9_drawnWorth 7 = .ok (.bipush 8, 2) := by decide +kernel
theorem dX9_drawnWorth_9 : decode cX9_drawnWorth 9 = .ok (.if_icmp .ge 36, 3) := by decide +kernel
theorem dX9_drawnWorth_12 : decode cX9_drawnWorth 12 = .ok (.iload_n 3, 1) := by decide +kernel
theorem dX9_drawnWorth_13 : decode cX9_drawnWorth 13 = .ok (.ldc_w 315, 3) := by decide +kernel
theorem dX9_drawnWorth_16 : decode cX9_drawnWorth 16 = .ok (.imul, 1) := by decide +kernel
theorem dX9_drawnWorth_17 : decode cX9_drawnWorth 17 = .ok (.sipush 12345, 3) := by decide +kernel
theorem dX9_drawnWorth_20 : decode cX9_drawnWorth 20 = .ok (.iadd, 1) := by decide +kernel
theorem dX9_drawnWorth_21 : decode cX9_drawnWorth 21 = .ok (.istore_n 3, 1) := by decide +kernel
theorem dX9_drawnWorth_22 : decode cX9_drawnWorth 22 = .ok (.aload_n 0, 1) := by decide +kernel
theorem dX9_drawnWorth_23 : decode cX9_drawnWorth 23 = .ok (.getfield 34, 3) := by decide +kernel
theorem dX9_drawnWorth_26 : decode cX9_drawnWorth 26 = .ok (.iload 4, 2) := by decide +kernel
theorem dX9_drawnWorth_28 : decode cX9_drawnWorth 28 = .ok (.iload_n 3, 1) := by decide +kernel
theorem dX9_drawnWorth_29 : decode cX9_drawnWorth 29 = .ok (.bipush 9, 2) := by decide +kernel
theorem dX9_drawnWorth_31 : decode cX9_drawnWorth 31 = .ok (.iushr, 1) := by decide +kernel
theorem dX9_drawnWorth_32 : decode cX9_drawnWorth 32 = .ok (.bipush 21, 2) := by decide +kernel
theorem dX9_drawnWorth_34 : decode cX9_drawnWorth 34 = .ok (.irem, 1) := by decide +kernel
theorem dX9_drawnWorth_35 : decode cX9_drawnWorth 35 = .ok (.bipush 10, 2) := by decide +kernel
theorem dX9_drawnWorth_37 : decode cX9_drawnWorth 37 = .ok (.isub, 1) := by decide +kernel
theorem dX9_drawnWorth_38 : decode cX9_drawnWorth 38 = .ok (.iastore, 1) := by decide +kernel
theorem dX9_drawnWorth_39 : decode cX9_drawnWorth 39 = .ok (.iinc 4 1, 3) := by decide +kernel
theorem dX9_drawnWorth_42 : decode cX9_drawnWorth 42 = .ok (.goto (-37), 3) := by decide +kernel
theorem dX9_drawnWorth_45 : decode cX9_drawnWorth 45 = .ok (.aload_n 0, 1) := by decide +kernel
theorem dX9_drawnWorth_46 : decode cX9_drawnWorth 46 = .ok (.getfield 68, 3) := by decide +kernel
theorem dX9_drawnWorth_49 : decode cX9_drawnWorth 49 = .ok (.aload_n 1, 1) := by decide +kernel
theorem dX9_drawnWorth_50 : decode cX9_drawnWorth 50 = .ok (.aload_n 0, 1) := by decide +kernel
theorem dX9_drawnWorth_51 : decode cX9_drawnWorth 51 = .ok (.getfield 34, 3) := by decide +kernel
theorem dX9_drawnWorth_54 : decode cX9_drawnWorth 54 = .ok (.invokevirtual 172, 3) := by decide +kernel
theorem dX9_drawnWorth_57 : decode cX9_drawnWorth 57 = .ok (.lreturn, 1) := by decide +kernel
theorem dX9_commonDivisor_0 : decode cX9_commonDivisor 0 = .ok (.iload_n 0, 1) := by decide +kernel
theorem dX9_commonDivisor_1 : decode cX9_commonDivisor 1 = .ok (.istore_n 2, 1) := by decide +kernel
theorem dX9_commonDivisor_2 : decode cX9_commonDivisor 2 = .ok (.iload_n 1, 1) := by decide +kernel
theorem dX9_commonDivisor_3 : decode cX9_commonDivisor 3 = .ok (.istore_n 3, 1) := by decide +kernel
theorem dX9_commonDivisor_4 : decode cX9_commonDivisor 4 = .ok (.iconst 0, 1) := by decide +kernel
theorem dX9_commonDivisor_5 : decode cX9_commonDivisor 5 = .ok (.istore 4, 2) := by decide +kernel
theorem dX9_commonDivisor_7 : decode cX9_commonDivisor 7 = .ok (.iload 4, 2) := by decide +kernel
theorem dX9_commonDivisor_9 : decode cX9_commonDivisor 9 = .ok (.bipush 64, 2) := by decide +kernel
theorem dX9_commonDivisor_11 : decode cX9_commonDivisor 11 = .ok (.if_icmp .ge 23, 3) := by decide +kernel
theorem dX9_commonDivisor_14 : decode cX9_commonDivisor 14 = .ok (.iload_n 3, 1) := by decide +kernel
theorem dX9_commonDivisor_15 : decode cX9_commonDivisor 15 = .ok (.ifCond .eq 19, 3) := by decide +kernel
theorem dX9_commonDivisor_18 : decode cX9_commonDivisor 18 = .ok (.iload_n 2, 1) := by decide +kernel
theorem dX9_commonDivisor_19 : decode cX9_commonDivisor 19 = .ok (.iload_n 3, 1) := by decide +kernel
theorem dX9_commonDivisor_20 : decode cX9_commonDivisor 20 = .ok (.irem, 1) := by decide +kernel
theorem dX9_commonDivisor_21 : decode cX9_commonDivisor 21 = .ok (.istore 5, 2) := by decide +kernel
theorem dX9_commonDivisor_23 : decode cX9_commonDivisor 23 = .ok (.iload_n 3, 1) := by decide +kernel
theorem dX9_commonDivisor_24 : decode cX9_commonDivisor 24 = .ok (.istore_n 2, 1) := by decide +kernel
theorem dX9_commonDivisor_25 : decode cX9_commonDivisor 25 = .ok (.iload 5, 2) := by decide +kernel
theorem dX9_commonDivisor_27 : decode cX9_commonDivisor 27 = .ok (.istore_n 3, 1) := by decide +kernel
theorem dX9_commonDivisor_28 : decode cX9_commonDivisor 28 = .ok (.iinc 4 1, 3) := by decide +kernel
theorem dX9_commonDivisor_31 : decode cX9_commonDivisor 31 = .ok (.goto (-24), 3) := by decide +kernel
theorem dX9_commonDivisor_34 : decode cX9_commonDivisor 34 = .ok (.iload_n 2, 1) := by decide +kernel
theorem dX9_commonDivisor_35 : decode cX9_commonDivisor 35 = .ok (.ireturn, 1) := by decide +kernel
theorem dX9_firstOtherwise_0 : decode cX9_firstOtherwise 0 = .ok (.iload_n 3, 1) := by decide +kernel
theorem dX9_firstOtherwise_1 : decode cX9_firstOtherwise 1 = .ok (.invokestatic 122, 3) := by decide +kernel
theorem dX9_firstOtherwise_4 : decode cX9_firstOtherwise 4 = .ok (.ifCond .ne 5, 3) := by decide +kernel
theorem dX9_firstOtherwise_7 : decode cX9_firstOtherwise 7 = .ok (.iconst (-1), 1) := by decide +kernel
theorem dX9_firstOtherwise_8 : decode cX9_firstOtherwise 8 = .ok (.ireturn, 1) := by decide +kernel
theorem dX9_firstOtherwise_9 : decode cX9_firstOtherwise 9 = .ok (.aload_n 0, 1) := by decide +kernel
theorem dX9_firstOtherwise_10 : decode cX9_firstOtherwise 10 = .ok (.invokevirtual 226, 3) := by decide +kernel
theorem dX9_firstOtherwise_13 : decode cX9_firstOtherwise 13 = .ok (.iconst 0, 1) := by decide +kernel
theorem dX9_firstOtherwise_14 : decode cX9_firstOtherwise 14 = .ok (.istore 4, 2) := by decide +kernel
theorem dX9_firstOtherwise_16 : decode cX9_firstOtherwise 16 = .ok (.iload 4, 2) := by decide +kernel
theorem dX9_firstOtherwise_18 : decode cX9_firstOtherwise 18 = .ok (.aload_n 1, 1) := by decide +kernel
theorem dX9_firstOtherwise_19 : decode cX9_firstOtherwise 19 = .ok (.invokevirtual 248, 3) := by decide +kernel
theorem dX9_firstOtherwise_22 : decode cX9_firstOtherwise 22 = .ok (.if_icmp .ge 42, 3) := by decide +kernel
theorem dX9_firstOtherwise_25 : decode cX9_firstOtherwise 25 = .ok (.aload_n 0, 1) := by decide +kernel
theorem dX9_firstOtherwise_26 : decode cX9_firstOtherwise 26 = .ok (.getfield 34, 3) := by decide +kernel
theorem dX9_firstOtherwise_29 : decode cX9_firstOtherwise 29 = .ok (.iload_n 3, 1) := by decide +kernel
theorem dX9_firstOtherwise_30 : decode cX9_firstOtherwise 30 = .ok (.iload 4, 2) := by decide +kernel
theorem dX9_firstOtherwise_32 : decode cX9_firstOtherwise 32 = .ok (.iastore, 1) := by decide +kernel
theorem dX9_firstOtherwise_33 : decode cX9_firstOtherwise 33 = .ok (.aload_n 0, 1) := by decide +kernel
theorem dX9_firstOtherwise_34 : decode cX9_firstOtherwise 34 = .ok (.getfield 68, 3) := by decide +kernel
theorem dX9_firstOtherwise_37 : decode cX9_firstOtherwise 37 = .ok (.aload_n 2, 1) := by decide +kernel
theorem dX9_firstOtherwise_38 : decode cX9_firstOtherwise 38 = .ok (.aload_n 0, 1) := by decide +kernel
theorem dX9_firstOtherwise_39 : decode cX9_firstOtherwise 39 = .ok (.getfield 34, 3) := by decide +kernel
theorem dX9_firstOtherwise_42 : decode cX9_firstOtherwise 42 = .ok (.invokevirtual 172, 3) := by decide +kernel
theorem dX9_firstOtherwise_45 : decode cX9_firstOtherwise 45 = .ok (.l2i, 1) := by decide +kernel
theorem dX9_firstOtherwise_46 : decode cX9_firstOtherwise 46 = .ok (.aload_n 1, 1) := by decide +kernel
theorem dX9_firstOtherwise_47 : decode cX9_firstOtherwise 47 = .ok (.iload 4, 2) := by decide +kernel
theorem dX9_firstOtherwise_49 : decode cX9_firstOtherwise 49 = .ok (.invokevirtual 316, 3) := by decide +kernel
theorem dX9_firstOtherwise_52 : decode cX9_firstOtherwise 52 = .ok (.if_icmp .eq 6, 3) := by decide +kernel
theorem dX9_firstOtherwise_55 : decode cX9_firstOtherwise 55 = .ok (.iload 4, 2) := by decide +kernel
theorem dX9_firstOtherwise_57 : decode cX9_firstOtherwise 57 = .ok (.ireturn, 1) := by decide +kernel
theorem dX9_firstOtherwise_58 : decode cX9_firstOtherwise 58 = .ok (.iinc 4 1, 3) := by decide +kernel
theorem dX9_firstOtherwise_61 : decode cX9_firstOtherwise 61 = .ok (.goto (-45), 3) := by decide +kernel
theorem dX9_firstOtherwise_64 : decode cX9_firstOtherwise 64 = .ok (.iconst (-1), 1) := by decide +kernel
theorem dX9_firstOtherwise_65 : decode cX9_firstOtherwise 65 = .ok (.ireturn, 1) := by decide +kernel
theorem dX9_formulasTold_0 : decode cX9_formulasTold 0 = .ok (.iconst 0, 1) := by decide +kernel
theorem dX9_formulasTold_1 : decode cX9_formulasTold 1 = .ok (.istore_n 3, 1) := by decide +kernel
theorem dX9_formulasTold_2 : decode cX9_formulasTold 2 = .ok (.iconst 0, 1) := by decide +kernel
theorem dX9_formulasTold_3 : decode cX9_formulasTold 3 = .ok (.istore 4, 2) := by decide +kernel
theorem dX9_formulasTold_5 : decode cX9_formulasTold 5 = .ok (.iload 4, 2) := by decide +kernel
theorem dX9_formulasTold_7 : decode cX9_formulasTold 7 = .ok (.bipush 12, 2) := by decide +kernel
theorem dX9_formulasTold_9 : decode cX9_formulasTold 9 = .ok (.if_icmp .ge 46, 3) := by decide +kernel
theorem dX9_formulasTold_12 : decode cX9_formulasTold 12 = .ok (.aload_n 0, 1) := by decide +kernel
theorem dX9_formulasTold_13 : decode cX9_formulasTold 13 = .ok (.getfield 11, 3) := by decide +kernel
theorem dX9_formulasTold_16 : decode cX9_formulasTold 16 = .ok (.iload 4, 2) := by decide +kernel
theorem dX9_formulasTold_18 : decode cX9_formulasTold 18 = .ok (.aaload, 1) := by decide +kernel
theorem dX9_formulasTold_19 : decode cX9_formulasTold 19 = .ok (.invokevirtual 128, 3) := by decide +kernel
theorem dX9_formulasTold_22 : decode cX9_formulasTold 22 = .ok (.ifCond .ne 27, 3) := by decide +kernel
theorem dX9_formulasTold_25 : decode cX9_formulasTold 25 = .ok (.aload_n 0, 1) := by decide +kernel
theorem dX9_formulasTold_26 : decode cX9_formulasTold 26 = .ok (.aload_n 1, 1) := by decide +kernel
theorem dX9_formulasTold_27 : decode cX9_formulasTold 27 = .ok (.aload_n 0, 1) := by decide +kernel
theorem dX9_formulasTold_28 : decode cX9_formulasTold 28 = .ok (.getfield 11, 3) := by decide +kernel
theorem dX9_formulasTold_31 : decode cX9_formulasTold 31 = .ok (.iload 4, 2) := by decide +kernel
theorem dX9_formulasTold_33 : decode cX9_formulasTold 33 = .ok (.aaload, 1) := by decide +kernel
theorem dX9_formulasTold_34 : decode cX9_formulasTold 34 = .ok (.iload_n 2, 1) := by decide +kernel
theorem dX9_formulasTold_35 : decode cX9_formulasTold 35 = .ok (.invokevirtual 249, 3) := by decide +kernel
theorem dX9_formulasTold_38 : decode cX9_formulasTold 38 = .ok (.iconst (-1), 1) := by decide +kernel
theorem dX9_formulasTold_39 : decode cX9_formulasTold 39 = .ok (.if_icmp .ne 10, 3) := by decide +kernel
theorem dX9_formulasTold_42 : decode cX9_formulasTold 42 = .ok (.iload_n 3, 1) := by decide +kernel
theorem dX9_formulasTold_43 : decode cX9_formulasTold 43 = .ok (.iconst 1, 1) := by decide +kernel
theorem dX9_formulasTold_44 : decode cX9_formulasTold 44 = .ok (.iload 4, 2) := by decide +kernel
theorem dX9_formulasTold_46 : decode cX9_formulasTold 46 = .ok (.ishl, 1) := by decide +kernel
theorem dX9_formulasTold_47 : decode cX9_formulasTold 47 = .ok (.ior, 1) := by decide +kernel
theorem dX9_formulasTold_48 : decode cX9_formulasTold 48 = .ok (.istore_n 3, 1) := by decide +kernel
theorem dX9_formulasTold_49 : decode cX9_formulasTold 49 = .ok (.iinc 4 1, 3) := by decide +kernel
theorem dX9_formulasTold_52 : decode cX9_formulasTold 52 = .ok (.goto (-47), 3) := by decide +kernel
theorem dX9_formulasTold_55 : decode cX9_formulasTold 55 = .ok (.iload_n 3, 1) := by decide +kernel
theorem dX9_formulasTold_56 : decode cX9_formulasTold 56 = .ok (.ireturn, 1) := by decide +kernel
theorem dX9_namesTold_0 : decode cX9_namesTold 0 = .ok (.iconst 0, 1) := by decide +kernel
theorem dX9_namesTold_1 : decode cX9_namesTold 1 = .ok (.istore_n 3, 1) := by decide +kernel
theorem dX9_namesTold_2 : decode cX9_namesTold 2 = .ok (.iconst 0, 1) := by decide +kernel
theorem dX9_namesTold_3 : decode cX9_namesTold 3 = .ok (.istore 4, 2) := by decide +kernel
theorem dX9_namesTold_5 : decode cX9_namesTold 5 = .ok (.iload 4, 2) := by decide +kernel
theorem dX9_namesTold_7 : decode cX9_namesTold 7 = .ok (.bipush 8, 2) := by decide +kernel
theorem dX9_namesTold_9 : decode cX9_namesTold 9 = .ok (.if_icmp .ge 28, 3) := by decide +kernel
theorem dX9_namesTold_12 : decode cX9_namesTold 12 = .ok (.aload_n 0, 1) := by decide +kernel
theorem dX9_namesTold_13 : decode cX9_namesTold 13 = .ok (.aload_n 1, 1) := by decide +kernel
theorem dX9_namesTold_14 : decode cX9_namesTold 14 = .ok (.aload_n 2, 1) := by decide +kernel
theorem dX9_namesTold_15 : decode cX9_namesTold 15 = .ok (.iload 4, 2) := by decide +kernel
theorem dX9_namesTold_17 : decode cX9_namesTold 17 = .ok (.invokevirtual 249, 3) := by decide +kernel
theorem dX9_namesTold_20 : decode cX9_namesTold 20 = .ok (.iconst (-1), 1) := by decide +kernel
theorem dX9_namesTold_21 : decode cX9_namesTold 21 = .ok (.if_icmp .ne 10, 3) := by decide +kernel
theorem dX9_namesTold_24 : decode cX9_namesTold 24 = .ok (.iload_n 3, 1) := by decide +kernel
theorem dX9_namesTold_25 : decode cX9_namesTold 25 = .ok (.iconst 1, 1) := by decide +kernel
theorem dX9_namesTold_26 : decode cX9_namesTold 26 = .ok (.iload 4, 2) := by decide +kernel
theorem dX9_namesTold_28 : decode cX9_namesTold 28 = .ok (.ishl, 1) := by decide +kernel
theorem dX9_namesTold_29 : decode cX9_namesTold 29 = .ok (.ior, 1) := by decide +kernel
theorem dX9_namesTold_30 : decode cX9_namesTold 30 = .ok (.istore_n 3, 1) := by decide +kernel
theorem dX9_namesTold_31 : decode cX9_namesTold 31 = .ok (.iinc 4 1, 3) := by decide +kernel
theorem dX9_namesTold_34 : decode cX9_namesTold 34 = .ok (.goto (-29), 3) := by decide +kernel
theorem dX9_namesTold_37 : decode cX9_namesTold 37 = .ok (.iload_n 3, 1) := by decide +kernel
theorem dX9_namesTold_38 : decode cX9_namesTold 38 = .ok (.ireturn, 1) := by decide +kernel
theorem dX9_numbersTold_0 : decode cX9_numbersTold 0 = .ok (.aload_n 0, 1) := by decide +kernel
theorem dX9_numbersTold_1 : decode cX9_numbersTold 1 = .ok (.getfield 38, 3) := by decide +kernel
theorem dX9_numbersTold_4 : decode cX9_numbersTold 4 = .ok (.aload_n 2, 1) := by decide +kernel
theorem dX9_numbersTold_5 : decode cX9_numbersTold 5 = .ok (.invokevirtual 135, 3) := by decide +kernel
theorem dX9_numbersTold_8 : decode cX9_numbersTold 8 = .ok (.iconst 0, 1) := by decide +kernel
theorem dX9_numbersTold_9 : decode cX9_numbersTold 9 = .ok (.istore 6, 2) := by decide +kernel
theorem dX9_numbersTold_11 : decode cX9_numbersTold 11 = .ok (.iconst 0, 1) := by decide +kernel
theorem dX9_numbersTold_12 : decode cX9_numbersTold 12 = .ok (.istore 7, 2) := by decide +kernel
theorem dX9_numbersTold_14 : decode cX9_numbersTold 14 = .ok (.iload 7, 2) := by decide +kernel
theorem dX9_numbersTold_16 : decode cX9_numbersTold 16 = .ok (.bipush 100, 2) := by decide +kernel
theorem dX9_numbersTold_18 : decode cX9_numbersTold 18 = .ok (.if_icmp .ge 46, 3) := by decide +kernel
theorem dX9_numbersTold_21 : decode cX9_numbersTold 21 = .ok (.aload_n 0, 1) := by decide +kernel
theorem dX9_numbersTold_22 : decode cX9_numbersTold 22 = .ok (.getfield 38, 3) := by decide +kernel
theorem dX9_numbersTold_25 : decode cX9_numbersTold 25 = .ok (.iload 4, 2) := by decide +kernel
theorem dX9_numbersTold_27 : decode cX9_numbersTold 27 = .ok (.iload 7, 2) := by decide +kernel
theorem dX9_numbersTold_29 : decode cX9_numbersTold 29 = .ok (.i2l, 1) := by decide +kernel
theorem dX9_numbersTold_30 : decode cX9_numbersTold 30 = .ok (.invokevirtual 319, 3) := by decide +kernel
theorem dX9_numbersTold_33 : decode cX9_numbersTold 33 = .ok (.aload_n 0, 1) := by decide +kernel
theorem dX9_numbersTold_34 : decode cX9_numbersTold 34 = .ok (.aload_n 1, 1) := by decide +kernel
theorem dX9_numbersTold_35 : decode cX9_numbersTold 35 = .ok (.aload_n 0, 1) := by decide +kernel
theorem dX9_numbersTold_36 : decode cX9_numbersTold 36 = .ok (.getfield 38, 3) := by decide +kernel
theorem dX9_numbersTold_39 : decode cX9_numbersTold 39 = .ok (.iload_n 3, 1) := by decide +kernel
theorem dX9_numbersTold_40 : decode cX9_numbersTold 40 = .ok (.invokevirtual 249, 3) := by decide +kernel
theorem dX9_numbersTold_43 : decode cX9_numbersTold 43 = .ok (.iconst (-1), 1) := by decide +kernel
theorem dX9_numbersTold_44 : decode cX9_numbersTold 44 = .ok (.if_icmp .ne 14, 3) := by decide +kernel
theorem dX9_numbersTold_47 : decode cX9_numbersTold 47 = .ok (.iload 5, 2) := by decide +kernel
theorem dX9_numbersTold_49 : decode cX9_numbersTold 49 = .ok (.ifCond .eq 6, 3) := by decide +kernel
theorem dX9_numbersTold_52 : decode cX9_numbersTold 52 = .ok (.iload 7, 2) := by decide +kernel
theorem dX9_numbersTold_54 : decode cX9_numbersTold 54 = .ok (.ireturn, 1) := by decide +kernel
theorem dX9_numbersTold_55 : decode cX9_numbersTold 55 = .ok (.iinc 6 1, 3) := by decide +kernel
theorem dX9_numbersTold_58 : decode cX9_numbersTold 58 = .ok (.iinc 7 1, 3) := by decide +kernel
theorem dX9_numbersTold_61 : decode cX9_numbersTold 61 = .ok (.goto (-47), 3) := by decide +kernel
theorem dX9_numbersTold_64 : decode cX9_numbersTold 64 = .ok (.iload 5, 2) := by decide +kernel
theorem dX9_numbersTold_66 : decode cX9_numbersTold 66 = .ok (.ifCond .eq 7, 3) := by decide +kernel
theorem dX9_numbersTold_69 : decode cX9_numbersTold 69 = .ok (.iconst (-1), 1) := by decide +kernel
theorem dX9_numbersTold_70 : decode cX9_numbersTold 70 = .ok (.goto 5, 3) := by decide +kernel
theorem dX9_numbersTold_73 : decode cX9_numbersTold 73 = .ok (.iload 6, 2) := by decide +kernel
theorem dX9_numbersTold_75 : decode cX9_numbersTold 75 = .ok (.ireturn, 1) := by decide +kernel
theorem dX9_fullFormulas_0 : decode cX9_fullFormulas 0 = .ok (.iconst 0, 1) := by decide +kernel
theorem dX9_fullFormulas_1 : decode cX9_fullFormulas 1 = .ok (.istore_n 1, 1) := by decide +kernel
theorem dX9_fullFormulas_2 : decode cX9_fullFormulas 2 = .ok (.iconst 0, 1) := by decide +kernel
theorem dX9_fullFormulas_3 : decode cX9_fullFormulas 3 = .ok (.istore_n 2, 1) := by decide +kernel
theorem dX9_fullFormulas_4 : decode cX9_fullFormulas 4 = .ok (.iload_n 2, 1) := by decide +kernel
theorem dX9_fullFormulas_5 : decode cX9_fullFormulas 5 = .ok (.bipush 12, 2) := by decide +kernel
theorem dX9_fullFormulas_7 : decode cX9_fullFormulas 7 = .ok (.if_icmp .ge 24, 3) := by decide +kernel
theorem dX9_fullFormulas_10 : decode cX9_fullFormulas 10 = .ok (.aload_n 0, 1) := by decide +kernel
theorem dX9_fullFormulas_11 : decode cX9_fullFormulas 11 = .ok (.getfield 11, 3) := by decide +kernel
theorem dX9_fullFormulas_14 : decode cX9_fullFormulas 14 = .ok (.iload_n 2, 1) := by decide +kernel
theorem dX9_fullFormulas_15 : decode cX9_fullFormulas 15 = .ok (.aaload, 1) := by decide +kernel
theorem dX9_fullFormulas_16 : decode cX9_fullFormulas 16 = .ok (.invokevirtual 128, 3) := by decide +kernel
theorem dX9_fullFormulas_19 : decode cX9_fullFormulas 19 = .ok (.ifCond .ne 6, 3) := by decide +kernel
theorem dX9_fullFormulas_22 : decode cX9_fullFormulas 22 = .ok (.iinc 1 1, 3) := by decide +kernel
theorem dX9_fullFormulas_25 : decode cX9_fullFormulas 25 = .ok (.iinc 2 1, 3) := by decide +kernel
theorem dX9_fullFormulas_28 : decode cX9_fullFormulas 28 = .ok (.goto (-24), 3) := by decide +kernel
theorem dX9_fullFormulas_31 : decode cX9_fullFormulas 31 = .ok (.iload_n 1, 1) := by decide +kernel
theorem dX9_fullFormulas_32 : decode cX9_fullFormulas 32 = .ok (.ireturn, 1) := by decide +kernel
theorem dX9_allNodes_0 : decode cX9_allNodes 0 = .ok (.iconst 0, 1) := by decide +kernel
theorem dX9_allNodes_1 : decode cX9_allNodes 1 = .ok (.istore_n 1, 1) := by decide +kernel
theorem dX9_allNodes_2 : decode cX9_allNodes 2 = .ok (.iconst 0, 1) := by decide +kernel
theorem dX9_allNodes_3 : decode cX9_allNodes 3 = .ok (.istore_n 2, 1) := by decide +kernel
theorem dX9_allNodes_4 : decode cX9_allNodes 4 = .ok (.iload_n 2, 1) := by decide +kernel
theorem dX9_allNodes_5 : decode cX9_allNodes 5 = .ok (.bipush 12, 2) := by decide +kernel
theorem dX9_allNodes_7 : decode cX9_allNodes 7 = .ok (.if_icmp .ge 21, 3) := by decide +kernel
theorem dX9_allNodes_10 : decode cX9_allNodes 10 = .ok (.iload_n 1, 1) := by decide +kernel
theorem dX9_allNodes_11 : decode cX9_allNodes 11 = .ok (.aload_n 0, 1) := by decide +kernel
theorem dX9_allNodes_12 : decode cX9_allNodes 12 = .ok (.getfield 11, 3) := by decide +kernel
theorem dX9_allNodes_15 : decode cX9_allNodes 15 = .ok (.iload_n 2, 1) := by decide +kernel
theorem dX9_allNodes_16 : decode cX9_allNodes 16 = .ok (.aaload, 1) := by decide +kernel
theorem dX9_allNodes_17 : decode cX9_allNodes 17 = .ok (.invokevirtual 119, 3) := by decide +kernel
theorem dX9_allNodes_20 : decode cX9_allNodes 20 = .ok (.iadd, 1) := by decide +kernel
theorem dX9_allNodes_21 : decode cX9_allNodes 21 = .ok (.istore_n 1, 1) := by decide +kernel
theorem dX9_allNodes_22 : decode cX9_allNodes 22 = .ok (.iinc 2 1, 3) := by decide +kernel
theorem dX9_allNodes_25 : decode cX9_allNodes 25 = .ok (.goto (-21), 3) := by decide +kernel
theorem dX9_allNodes_28 : decode cX9_allNodes 28 = .ok (.iload_n 1, 1) := by decide +kernel
theorem dX9_allNodes_29 : decode cX9_allNodes 29 = .ok (.ireturn, 1) := by decide +kernel
theorem dX10_init_0 : decode cX10_init 0 = .ok (.aload_n 0, 1) := by decide +kernel
theorem dX10_init_1 : decode cX10_init 1 = .ok (.invokespecial 1, 3) := by decide +kernel
theorem dX10_init_4 : decode cX10_init 4 = .ok (.aload_n 0, 1) := by decide +kernel
theorem dX10_init_5 : decode cX10_init 5 = .ok (.bipush 12, 2) := by decide +kernel
theorem dX10_init_7 : decode cX10_init 7 = .ok (.newarray .int, 2) := by decide +kernel
theorem dX10_init_9 : decode cX10_init 9 = .ok (.putfield 9, 3) := by decide +kernel
theorem dX10_init_12 : decode cX10_init 12 = .ok (.aload_n 0, 1) := by decide +kernel
theorem dX10_init_13 : decode cX10_init 13 = .ok (.bipush 12, 2) := by decide +kernel
theorem dX10_init_15 : decode cX10_init 15 = .ok (.sipush 200, 3) := by decide +kernel
theorem dX10_init_18 : decode cX10_init 18 = .ok (.multianewarray 13 2, 4) := by decide +kernel
theorem dX10_init_22 : decode cX10_init 22 = .ok (.putfield 15, 3) := by decide +kernel
theorem dX10_init_25 : decode cX10_init 25 = .ok (.aload_n 0, 1) := by decide +kernel
theorem dX10_init_26 : decode cX10_init 26 = .ok (.bipush 12, 2) := by decide +kernel
theorem dX10_init_28 : decode cX10_init 28 = .ok (.sipush 200, 3) := by decide +kernel
theorem dX10_init_31 : decode cX10_init 31 = .ok (.multianewarray 18 2, 4) := by decide +kernel
theorem dX10_init_35 : decode cX10_init 35 = .ok (.putfield 20, 3) := by decide +kernel
theorem dX10_init_38 : decode cX10_init 38 = .ok (.aload_n 0, 1) := by decide +kernel
theorem dX10_init_39 : decode cX10_init 39 = .ok (.bipush 12, 2) := by decide +kernel
theorem dX10_init_41 : decode cX10_init 41 = .ok (.sipush 200, 3) := by decide +kernel
theorem dX10_init_44 : decode cX10_init 44 = .ok (.multianewarray 13 2, 4) := by decide +kernel
theorem dX10_init_48 : decode cX10_init 48 = .ok (.putfield 23, 3) := by decide +kernel
theorem dX10_init_51 : decode cX10_init 51 = .ok (.aload_n 0, 1) := by decide +kernel
theorem dX10_init_52 : decode cX10_init 52 = .ok (.bipush 8, 2) := by decide +kernel
theorem dX10_init_54 : decode cX10_init 54 = .ok (.newarray .int, 2) := by decide +kernel
theorem dX10_init_56 : decode cX10_init 56 = .ok (.putfield 26, 3) := by decide +kernel
theorem dX10_init_59 : decode cX10_init 59 = .ok (.aload_n 0, 1) := by decide +kernel
theorem dX10_init_60 : decode cX10_init 60 = .ok (.sipush 260, 3) := by decide +kernel
theorem dX10_init_63 : decode cX10_init 63 = .ok (.newarray .int, 2) := by decide +kernel
theorem dX10_init_65 : decode cX10_init 65 = .ok (.putfield 29, 3) := by decide +kernel
theorem dX10_init_68 : decode cX10_init 68 = .ok (.aload_n 0, 1) := by decide +kernel
theorem dX10_init_69 : decode cX10_init 69 = .ok (.sipush 260, 3) := by decide +kernel
theorem dX10_init_72 : decode cX10_init 72 = .ok (.newarray .long, 2) := by decide +kernel
theorem dX10_init_74 : decode cX10_init 74 = .ok (.putfield 32, 3) := by decide +kernel
theorem dX10_init_77 : decode cX10_init 77 = .ok (.aload_n 0, 1) := by decide +kernel
theorem dX10_init_78 : decode cX10_init 78 = .ok (.bipush 120, 2) := by decide +kernel
theorem dX10_init_80 : decode cX10_init 80 = .ok (.newarray .int, 2) := by decide +kernel
theorem dX10_init_82 : decode cX10_init 82 = .ok (.putfield 36, 3) := by decide +kernel
theorem dX10_init_85 : decode cX10_init 85 = .ok (.aload_n 0, 1) := by decide +kernel
theorem dX10_init_86 : decode cX10_init 86 = .ok (.bipush 8, 2) := by decide +kernel
theorem dX10_init_88 : decode cX10_init 88 = .ok (.newarray .int, 2) := by decide +kernel
theorem dX10_init_90 : decode cX10_init 90 = .ok (.putfield 39, 3) := by decide +kernel
theorem dX10_init_93 : decode cX10_init 93 = .ok (.aload_n 0, 1) := by decide +kernel
theorem dX10_init_94 : decode cX10_init 94 = .ok (.sipush 6000, 3) := by decide +kernel
theorem dX10_init_97 : decode cX10_init 97 = .ok (.newarray .int, 2) := by decide +kernel
theorem dX10_init_99 : decode cX10_init 99 = .ok (.putfield 42, 3) := by decide +kernel
theorem dX10_init_102 : decode cX10_init 102 = .ok (.aload_n 0, 1) := by decide +kernel
theorem dX10_init_103 : decode cX10_init 103 = .ok (.sipush 800, 3) := by decide +kernel
theorem dX10_init_106 : decode cX10_init 106 = .ok (.newarray .int, 2) := by decide +kernel
theorem dX10_init_108 : decode cX10_init 108 = .ok (.putfield 45, 3) := by decide +kernel
theorem dX10_init_111 : decode cX10_init 111 = .ok (.aload_n 0, 1) := by decide +kernel
theorem dX10_init_112 : decode cX10_init 112 = .ok (.sipush 800, 3) := by decide +kernel
theorem dX10_init_115 : decode cX10_init 115 = .ok (.newarray .long, 2) := by decide +kernel
theorem dX10_init_117 : decode cX10_init 117 = .ok (.putfield 48, 3) := by decide +kernel
theorem dX10_init_120 : decode cX10_init 120 = .ok (.aload_n 0, 1) := by decide +kernel
theorem dX10_init_121 : decode cX10_init 121 = .ok (.sipush 208, 3) := by decide +kernel
theorem dX10_init_124 : decode cX10_init 124 = .ok (.newarray .long, 2) := by decide +kernel
theorem dX10_init_126 : decode cX10_init 126 = .ok (.putfield 51, 3) := by decide +kernel
theorem dX10_init_129 : decode cX10_init 129 = .ok (.aload_n 0, 1) := by decide +kernel
theorem dX10_init_130 : decode cX10_init 130 = .ok (.bipush 8, 2) := by decide +kernel
theorem dX10_init_132 : decode cX10_init 132 = .ok (.newarray .int, 2) := by decide +kernel
theorem dX10_init_134 : decode cX10_init 134 = .ok (.putfield 54, 3) := by decide +kernel
theorem dX10_init_137 : decode cX10_init 137 = .ok (.aload_n 0, 1) := by decide +kernel
theorem dX10_init_138 : decode cX10_init 138 = .ok (.bipush 12, 2) := by decide +kernel
theorem dX10_init_140 : decode cX10_init 140 = .ok (.newarray .int, 2) := by decide +kernel
theorem dX10_init_142 : decode cX10_init 142 = .ok (.putfield 57, 3) := by decide +kernel
theorem dX10_init_145 : decode cX10_init 145 = .ok (.aload_n 0, 1) := by decide +kernel
theorem dX10_init_146 : decode cX10_init 146 = .ok (.bipush 8, 2) := by decide +kernel
theorem dX10_init_148 : decode cX10_init 148 = .ok (.newarray .int, 2) := by decide +kernel
theorem dX10_init_150 : decode cX10_init 150 = .ok (.putfield 60, 3) := by decide +kernel
theorem dX10_init_153 : decode cX10_init 153 = .ok (.aload_n 0, 1) := by decide +kernel
theorem dX10_init_154 : decode cX10_init 154 = .ok (.bipush 12, 2) := by decide +kernel
theorem dX10_init_156 : decode cX10_init 156 = .ok (.sipush 200, 3) := by decide +kernel
theorem dX10_init_159 : decode cX10_init 159 = .ok (.multianewarray 13 2, 4) := by decide +kernel
theorem dX10_init_163 : decode cX10_init 163 = .ok (.putfield 63, 3) := by decide +kernel
theorem dX10_init_166 : decode cX10_init 166 = .ok (.aload_n 0, 1) := by decide +kernel
theorem dX10_init_167 : decode cX10_init 167 = .ok (.bipush 12, 2) := by decide +kernel
theorem dX10_init_169 : decode cX10_init 169 = .ok (.sipush 200, 3) := by decide +kernel
theorem dX10_init_172 : decode cX10_init 172 = .ok (.multianewarray 13 2, 4) := by decide +kernel
theorem dX10_init_176 : decode cX10_init 176 = .ok (.putfield 66, 3) := by decide +kernel
theorem dX10_init_179 : decode cX10_init 179 = .ok (.aload_n 0, 1) := by decide +kernel
theorem dX10_init_180 : decode cX10_init 180 = .ok (.bipush 12, 2) := by decide +kernel
theorem dX10_init_182 : decode cX10_init 182 = .ok (.sipush 200, 3) := by decide +kernel
theorem dX10_init_185 : decode cX10_init 185 = .ok (.multianewarray 18 2, 4) := by decide +kernel
theorem dX10_init_189 : decode cX10_init 189 = .ok (.putfield 69, 3) := by decide +kernel
theorem dX10_init_192 : decode cX10_init 192 = .ok (.aload_n 0, 1) := by decide +kernel
theorem dX10_init_193 : decode cX10_init 193 = .ok (.iconst 4, 1) := by decide +kernel
theorem dX10_init_194 : decode cX10_init 194 = .ok (.newarray .int, 2) := by decide +kernel
theorem dX10_init_196 : decode cX10_init 196 = .ok (.dup, 1) := by decide +kernel
theorem dX10_init_197 : decode cX10_init 197 = .ok (.iconst 0, 1) := by decide +kernel
theorem dX10_init_198 : decode cX10_init 198 = .ok (.iconst (-1), 1) := by decide +kernel
theorem dX10_init_199 : decode cX10_init 199 = .ok (.iastore, 1) := by decide +kernel
theorem dX10_init_200 : decode cX10_init 200 = .ok (.dup, 1) := by decide +kernel
theorem dX10_init_201 : decode cX10_init 201 = .ok (.iconst 1, 1) := by decide +kernel
theorem dX10_init_202 : decode cX10_init 202 = .ok (.iconst (-1), 1) := by decide +kernel
theorem dX10_init_203 : decode cX10_init 203 = .ok (.iastore, 1) := by decide +kernel
theorem dX10_init_204 : decode cX10_init 204 = .ok (.dup, 1) := by decide +kernel
theorem dX10_init_205 : decode cX10_init 205 = .ok (.iconst 2, 1) := by decide +kernel
theorem dX10_init_206 : decode cX10_init 206 = .ok (.iconst (-1), 1) := by decide +kernel
theorem dX10_init_207 : decode cX10_init 207 = .ok (.iastore, 1) := by decide +kernel
theorem dX10_init_208 : decode cX10_init 208 = .ok (.dup, 1) := by decide +kernel
theorem dX10_init_209 : decode cX10_init 209 = .ok (.iconst 3, 1) := by decide +kernel
theorem dX10_init_210 : decode cX10_init 210 = .ok (.iconst (-1), 1) := by decide +kernel
theorem dX10_init_211 : decode cX10_init 211 = .ok (.iastore, 1) := by decide +kernel
theorem dX10_init_212 : decode cX10_init 212 = .ok (.putfield 72, 3) := by decide +kernel
theorem dX10_init_215 : decode cX10_init 215 = .ok (.aload_n 0, 1) := by decide +kernel
theorem dX10_init_216 : decode cX10_init 216 = .ok (.iconst 4, 1) := by decide +kernel
theorem dX10_init_217 : decode cX10_init 217 = .ok (.newarray .int, 2) := by decide +kernel
theorem dX10_init_219 : decode cX10_init 219 = .ok (.putfield 75, 3) := by decide +kernel
theorem dX10_init_222 : decode cX10_init 222 = .ok (.aload_n 0, 1) := by decide +kernel
theorem dX10_init_223 : decode cX10_init 223 = .ok (.iconst 4, 1) := by decide +kernel
theorem dX10_init_224 : decode cX10_init 224 = .ok (.bipush 40, 2) := by decide +kernel
theorem dX10_init_226 : decode cX10_init 226 = .ok (.multianewarray 13 2, 4) := by decide +kernel
theorem dX10_init_230 : decode cX10_init 230 = .ok (.putfield 78, 3) := by decide +kernel
theorem dX10_init_233 : decode cX10_init 233 = .ok (.aload_n 0, 1) := by decide +kernel
theorem dX10_init_234 : decode cX10_init 234 = .ok (.bipush 40, 2) := by decide +kernel
theorem dX10_init_236 : decode cX10_init 236 = .ok (.newarray .int, 2) := by decide +kernel
theorem dX10_init_238 : decode cX10_init 238 = .ok (.putfield 81, 3) := by decide +kernel
theorem dX10_init_241 : decode cX10_init 241 = .ok (.return_, 1) := by decide +kernel
theorem dX10_in_0 : decode cX10_in 0 = .ok (.iload_n 0, 1) := by decide +kernel
theorem dX10_in_1 : decode cX10_in 1 = .ok (.iload_n 1, 1) := by decide +kernel
theorem dX10_in_2 : decode cX10_in 2 = .ok (.if_icmp .lt 12, 3) := by decide +kernel
theorem dX10_in_5 : decode cX10_in 5 = .ok (.iload_n 0, 1) := by decide +kernel
theorem dX10_in_6 : decode cX10_in 6 = .ok (.iload_n 2, 1) := by decide +kernel
theorem dX10_in_7 : decode cX10_in 7 = .ok (.if_icmp .gt 7, 3) := by decide +kernel
theorem dX10_in_10 : decode cX10_in 10 = .ok (.iconst 1, 1) := by decide +kernel
theorem dX10_in_11 : decode cX10_in 11 = .ok (.goto 4, 3) := by decide +kernel
theorem dX10_in_14 : decode cX10_in 14 = .ok (.iconst 0, 1) := by decide +kernel
theorem dX10_in_15 : decode cX10_in 15 = .ok (.ireturn, 1) := by decide +kernel
theorem dX10_isFormula_0 : decode cX10_isFormula 0 = .ok (.iload_n 0, 1) := by decide +kernel
theorem dX10_isFormula_1 : decode cX10_isFormula 1 = .ok (.iconst 0, 1) := by decide +kernel
theorem dX10_isFormula_2 : decode cX10_isFormula 2 = .ok (.bipush 11, 2) := by decide +kernel
theorem dX10_isFormula_4 : decode cX10_isFormula 4 = .ok (.invokestatic 84, 3) := by decide +kernel
theorem dX10_isFormula_7 : decode cX10_isFormula 7 = .ok (.ireturn, 1) := by decide +kernel
theorem dX10_isName_0 : decode cX10_isName 0 = .ok (.iload_n 0, 1) := by decide +kernel
theorem dX10_isName_1 : decode cX10_isName 1 = .ok (.iconst 0, 1) := by decide +kernel
theorem dX10_isName_2 : decode cX10_isName 2 = .ok (.bipush 7, 2) := by decide +kernel
theorem dX10_isName_4 : decode cX10_isName 4 = .ok (.invokestatic 84, 3) := by decide +kernel
theorem dX10_isName_7 : decode cX10_isName 7 = .ok (.ireturn, 1) := by decide +kernel
theorem dX10_asLong_0 : decode cX10_asLong 0 = .ok (.iload_n 0, 1) := by decide +kernel
theorem dX10_asLong_1 : decode cX10_asLong 1 = .ok (.i2l, 1) := by decide +kernel
theorem dX10_asLong_2 : decode cX10_asLong 2 = .ok (.ldc2_w 88, 3) := by decide +kernel
theorem dX10_asLong_5 : decode cX10_asLong 5 = .ok (.lsub, 1) := by decide +kernel
theorem dX10_asLong_6 : decode cX10_asLong 6 = .ok (.lreturn, 1) := by decide +kernel
theorem dX10_parts_0 : decode cX10_parts 0 = .ok (.iload_n 0, 1) := by decide +kernel
theorem dX10_parts_1 : decode cX10_parts 1 = .ok (.iconst 2, 1) := by decide +kernel
theorem dX10_parts_2 : decode cX10_parts 2 = .ok (.if_icmp .ge 7, 3) := by decide +kernel
theorem dX10_parts_5 : decode cX10_parts 5 = .ok (.iconst 0, 1) := by decide +kernel
theorem dX10_parts_6 : decode cX10_parts 6 = .ok (.goto 28, 3) := by decide +kernel
theorem dX10_parts_9 : decode cX10_parts 9 = .ok (.iload_n 0, 1) := by decide +kernel
theorem dX10_parts_10 : decode cX10_parts 10 = .ok (.iconst 3, 1) := by decide +kernel
theorem dX10_parts_11 : decode cX10_parts 11 = .ok (.if_icmp .eq 8, 3) := by decide +kernel
theorem dX10_parts_14 : decode cX10_parts 14 = .ok (.iload_n 0, 1) := by decide +kernel
theorem dX10_parts_15 : decode cX10_parts 15 = .ok (.iconst 4, 1) := by decide +kernel
theorem dX10_parts_16 : decode cX10_parts 16 = .ok (.if_icmp .ne 7, 3) := by decide +kernel
theorem dX10_parts_19 : decode cX10_parts 19 = .ok (.iconst 2, 1) := by decide +kernel
theorem dX10_parts_20 : decode cX10_parts 20 = .ok (.goto 14, 3) := by decide +kernel
theorem dX10_parts_23 : decode cX10_parts 23 = .ok (.iload_n 0, 1) := by decide +kernel
theorem dX10_parts_24 : decode cX10_parts 24 = .ok (.bipush 6, 2) := by decide +kernel
theorem dX10_parts_26 : decode cX10_parts 26 = .ok (.if_icmp .ne 7, 3) := by decide +kernel
theorem dX10_parts_29 : decode cX10_parts 29 = .ok (.iconst 3, 1) := by decide +kernel
theorem dX10_parts_30 : decode cX10_parts 30 = .ok (.goto 4, 3) := by decide +kernel
theorem dX10_parts_33 : decode cX10_parts 33 = .ok (.iconst 1, 1) := by decide +kernel
theorem dX10_parts_34 : decode cX10_parts 34 = .ok (.ireturn, 1) := by decide +kernel
theorem dX10_begin_0 : decode cX10_begin 0 = .ok (.aload_n 0, 1) := by decide +kernel
theorem dX10_begin_1 : decode cX10_begin 1 = .ok (.iconst 0, 1) := by decide +kernel
theorem dX10_begin_2 : decode cX10_begin 2 = .ok (.putfield 90, 3) := by decide +kernel
theorem dX10_begin_5 : decode cX10_begin 5 = .ok (.aload_n 0, 1) := by decide +kernel
theorem dX10_begin_6 : decode cX10_begin 6 = .ok (.iconst 0, 1) := by decide +kernel
theorem dX10_begin_7 : decode cX10_begin 7 = .ok (.putfield 94, 3) := by decide +kernel
theorem dX10_begin_10 : decode cX10_begin 10 = .ok (.return_, 1) := by decide +kernel
theorem dX10_put_0 : decode cX10_put 0 = .ok (.aload_n 0, 1) := by decide +kernel
theorem dX10_put_1 : decode cX10_put 1 = .ok (.getfield 90, 3) := by decide +kernel
theorem dX10_put_4 : decode cX10_put 4 = .ok (.sipush 200, 3) := by decide +kernel
theorem dX10_put_7 : decode cX10_put 7 = .ok (.if_icmp .ne 8, 3) := by decide +kernel
theorem dX10_put_10 : decode cX10_put 10 = .ok (.aload_n 0, 1) := by decide +kernel
theorem dX10_put_11 : decode cX10_put 11 = .ok (.iconst 1, 1) := by decide +kernel
theorem dX10_put_12 : decode cX10_put 12 = .ok (.putfield 94, 3) := by decide +kernel
theorem dX10_put_15 : decode cX10_put 15 = .ok (.aload_n 0, 1) := by decide +kernel
theorem dX10_put_16 : decode cX10_put 16 = .ok (.getfield 94, 3) := by decide +kernel
theorem dX10_put_19 : decode cX10_put 19 = .ok (.ifCond .eq 4, 3) := by decide +kernel
theorem dX10_put_22 : decode cX10_put 22 = .ok (.return_, 1) := by decide +kernel
theorem dX10_put_23 : decode cX10_put 23 = .ok (.aload_n 0, 1) := by decide +kernel
theorem dX10_put_24 : decode cX10_put 24 = .ok (.getfield 29, 3) := by decide +kernel
theorem dX10_put_27 : decode cX10_put 27 = .ok (.aload_n 0, 1) := by decide +kernel
theorem dX10_put_28 : decode cX10_put 28 = .ok (.getfield 90, 3) := by decide +kernel
theorem dX10_put_31 : decode cX10_put 31 = .ok (.iload_n 1, 1) := by decide +kernel
theorem dX10_put_32 : decode cX10_put 32 = .ok (.iastore, 1) := by decide +kernel
theorem dX10_put_33 : decode cX10_put 33 = .ok (.aload_n 0, 1) := by decide +kernel
theorem dX10_put_34 : decode cX10_put 34 = .ok (.getfield 32, 3) := by decide +kernel
theorem dX10_put_37 : decode cX10_put 37 = .ok (.aload_n 0, 1) := by decide +kernel
theorem dX10_put_38 : decode cX10_put 38 = .ok (.getfield 90, 3) := by decide +kernel
theorem dX10_put_41 : decode cX10_put 41 = .ok (.lload_n 2, 1) := by decide +kernel
theorem dX10_put_42 : decode cX10_put 42 = .ok (.lastore, 1) := by decide +kernel
theorem dX10_put_43 : decode cX10_put 43 = .ok (.aload_n 0, 1) := by decide +kernel
theorem dX10_put_44 : decode cX10_put 44 = .ok (.dup, 1) := by decide +kernel
theorem dX10_put_45 : decode cX10_put 45 = .ok (.getfield 90, 3) := by decide +kernel
theorem dX10_put_48 : decode cX10_put 48 = .ok (.iconst 1, 1) := by decide +kernel
theorem dX10_put_49 : decode cX10_put 49 = .ok (.iadd, 1) := by decide +kernel
theorem dX10_put_50 : decode cX10_put 50 = .ok (.putfield 90, 3) := by decide +kernel
theorem dX10_put_53 : decode cX10_put 53 = .ok (.return_, 1) := by decide +kernel
theorem dX10_madeEnd_0 : decode cX10_madeEnd 0 = .ok (.iconst 1, 1) := by decide +kernel
theorem dX10_madeEnd_1 : decode cX10_madeEnd 1 = .ok (.istore_n 2, 1) := by decide +kernel
theorem dX10_madeEnd_2 : decode cX10_madeEnd 2 = .ok (.iload_n 1, 1) := by decide +kernel
theorem dX10_madeEnd_3 : decode cX10_madeEnd 3 = .ok (.istore_n 3, 1) := by decide +kernel
theorem dX10_madeEnd_4 : decode cX10_madeEnd 4 = .ok (.iload_n 2, 1) := by decide +kernel
theorem dX10_madeEnd_5 : decode cX10_madeEnd 5 = .ok (.ifCond .le 23, 3) := by decide +kernel
theorem dX10_madeEnd_8 : decode cX10_madeEnd 8 = .ok (.iload_n 2, 1) := by decide +kernel
theorem dX10_madeEnd_9 : decode cX10_madeEnd 9 = .ok (.aload_n 0, 1) := by decide +kernel
theorem dX10_madeEnd_10 : decode cX10_madeEnd 10 = .ok (.getfield 29, 3) := by decide +kernel
theorem dX10_madeEnd_13 : decode cX10_madeEnd 13 = .ok (.iload_n 3, 1) := by decide +kernel
theorem dX10_madeEnd_14 : decode cX10_madeEnd 14 = .ok (.iaload, 1) := by decide +kernel
theorem dX10_madeEnd_15 : decode cX10_madeEnd 15 = .ok (.invokestatic 98, 3) := by decide +kernel
theorem dX10_madeEnd_18 : decode cX10_madeEnd 18 = .ok (.iconst 1, 1) := by decide +kernel
theorem dX10_madeEnd_19 : decode cX10_madeEnd 19 = .ok (.isub, 1) := by decide +kernel
theorem dX10_madeEnd_20 : decode cX10_madeEnd 20 = .ok (.iadd, 1) := by decide +kernel
theorem dX10_madeEnd_21 : decode cX10_madeEnd 21 = .ok (.istore_n 2, 1) := by decide +kernel
theorem dX10_madeEnd_22 : decode cX10_madeEnd 22 = .ok (.iinc 3 1, 3) := by decide +kernel
theorem dX10_madeEnd_25 : decode cX10_madeEnd 25 = .ok (.goto (-21), 3) := by decide +kernel
theorem dX10_madeEnd_28 : decode cX10_madeEnd 28 = .ok (.iload_n 3, 1) := by decide +kernel
theorem dX10_madeEnd_29 : decode cX10_madeEnd 29 = .ok (.ireturn, 1) := by decide +kernel
theorem dX10_takeOut_0 : decode cX10_takeOut 0 = .ok (.iload_n 2, 1) := by decide +kernel
theorem dX10_takeOut_1 : decode cX10_takeOut 1 = .ok (.istore_n 3, 1) := by decide +kernel
theorem dX10_takeOut_2 : decode cX10_takeOut 2 = .ok (.iload_n 3, 1) := by decide +kernel
theorem dX10_takeOut_3 : decode cX10_takeOut 3 = .ok (.aload_n 0, 1) := by decide +kernel
theorem dX10_takeOut_4 : decode cX10_takeOut 4 = .ok (.getfield 90, 3) := by decide +kernel
theorem dX10_takeOut_7 : decode cX10_takeOut 7 = .ok (.if_icmp .ge 41, 3) := by decide +kernel
theorem dX10_takeOut_10 : decode cX10_takeOut 10 = .ok (.aload_n 0, 1) := by decide +kernel
theorem dX10_takeOut_11 : decode cX10_takeOut 11 = .ok (.getfield 29, 3) := by decide +kernel
theorem dX10_takeOut_14 : decode cX10_takeOut 14 = .ok (.iload_n 1, 1) := by decide +kernel
theorem dX10_takeOut_15 : decode cX10_takeOut 15 = .ok (.iload_n 3, 1) := by decide +kernel
theorem dX10_takeOut_16 : decode cX10_takeOut 16 = .ok (.iadd, 1) := by decide +kernel
theorem dX10_takeOut_17 : decode cX10_takeOut 17 = .ok (.iload_n 2, 1) := by decide +kernel
theorem dX10_takeOut_18 : decode cX10_takeOut 18 = .ok (.isub, 1) := by decide +kernel
theorem dX10_takeOut_19 : decode cX10_takeOut 19 = .ok (.aload_n 0, 1) := by decide +kernel
theorem dX10_takeOut_20 : decode cX10_takeOut 20 = .ok (.getfield 29, 3) := by decide +kernel
theorem dX10_takeOut_23 : decode cX10_takeOut 23 = .ok (.iload_n 3, 1) := by decide +kernel
theorem dX10_takeOut_24 : decode cX10_takeOut 24 = .ok (.iaload, 1) := by decide +kernel
theorem dX10_takeOut_25 : decode cX10_takeOut 25 = .ok (.iastore, 1) := by decide +kernel
theorem dX10_takeOut_26 : decode cX10_takeOut 26 = .ok (.aload_n 0, 1) := by decide +kernel
theorem dX10_takeOut_27 : decode cX10_takeOut 27 = .ok (.getfield 32, 3) := by decide +kernel
theorem dX10_takeOut_30 : decode cX10_takeOut 30 = .ok (.iload_n 1, 1) := by decide +kernel
theorem dX10_takeOut_31 : decode cX10_takeOut 31 = .ok (.iload_n 3, 1) := by decide +kernel
theorem dX10_takeOut_32 : decode cX10_takeOut 32 = .ok (.iadd, 1) := by decide +kernel
theorem dX10_takeOut_33 : decode cX10_takeOut 33 = .ok (.iload_n 2, 1) := by decide +kernel
theorem dX10_takeOut_34 : decode cX10_takeOut 34 = .ok (.isub, 1) := by decide +kernel
theorem dX10_takeOut_35 : decode cX10_takeOut 35 = .ok (.aload_n 0, 1) := by decide +kernel
theorem dX10_takeOut_36 : decode cX10_takeOut 36 = .ok (.getfield 32, 3) := by decide +kernel
theorem dX10_takeOut_39 : decode cX10_takeOut 39 = .ok (.iload_n 3, 1) := by decide +kernel
theorem dX10_takeOut_40 : decode cX10_takeOut 40 = .ok (.laload, 1) := by decide +kernel
theorem dX10_takeOut_41 : decode cX10_takeOut 41 = .ok (.lastore, 1) := by decide +kernel
theorem dX10_takeOut_42 : decode cX10_takeOut 42 = .ok (.iinc 3 1, 3) := by decide +kernel
theorem dX10_takeOut_45 : decode cX10_takeOut 45 = .ok (.goto (-43), 3) := by decide +kernel
theorem dX10_takeOut_48 : decode cX10_takeOut 48 = .ok (.aload_n 0, 1) := by decide +kernel
theorem dX10_takeOut_49 : decode cX10_takeOut 49 = .ok (.dup, 1) := by decide +kernel
theorem dX10_takeOut_50 : decode cX10_takeOut 50 = .ok (.getfield 90, 3) := by decide +kernel
theorem dX10_takeOut_53 : decode cX10_takeOut 53 = .ok (.iload_n 2, 1) := by decide +kernel
theorem dX10_takeOut_54 : decode cX10_takeOut 54 = .ok (.iload_n 1, 1) := by decide +kernel
theorem dX10_takeOut_55 : decode cX10_takeOut 55 = .ok (.isub, 1) := by decide +kernel
theorem dX10_takeOut_56 : decode cX10_takeOut 56 = .ok (.isub, 1) := by decide +kernel
theorem dX10_takeOut_57 : decode cX10_takeOut 57 = .ok (.putfield 90, 3) := by decide +kernel
theorem dX10_takeOut_60 : decode cX10_takeOut 60 = .ok (.return_, 1) := by decide +kernel
theorem dX10_putAhead_0 : decode cX10_putAhead 0 = .ok (.aload_n 0, 1) := by decide +kernel
theorem dX10_putAhead_1 : decode cX10_putAhead 1 = .ok (.iload_n 2, 1) := by decide +kernel
theorem dX10_putAhead_2 : decode cX10_putAhead 2 = .ok (.lload_n 3, 1) := by decide +kernel
theorem dX10_putAhead_3 : decode cX10_putAhead 3 = .ok (.invokevirtual 102, 3) := by decide +kernel
theorem dX10_putAhead_6 : decode cX10_putAhead 6 = .ok (.aload_n 0, 1) := by decide +kernel
theorem dX10_putAhead_7 : decode cX10_putAhead 7 = .ok (.getfield 94, 3) := by decide +kernel
theorem dX10_putAhead_10 : decode cX10_putAhead 10 = .ok (.ifCond .eq 4, 3) := by decide +kernel
theorem dX10_putAhead_13 : decode cX10_putAhead 13 = .ok (.return_, 1) := by decide +kernel
theorem dX10_putAhead_14 : decode cX10_putAhead 14 = .ok (.aload_n 0, 1) := by decide +kernel
theorem dX10_putAhead_15 : decode cX10_putAhead 15 = .ok (.getfield 90, 3) := by decide +kernel
theorem dX10_putAhead_18 : decode cX10_putAhead 18 = .ok (.iconst 1, 1) := by decide +kernel
theorem dX10_putAhead_19 : decode cX10_putAhead 19 = .ok (.isub, 1) := by decide +kernel
theorem dX10_putAhead_20 : decode cX10_putAhead 20 = .ok (.istore 5, 2) := by decide +kernel
theorem dX10_putAhead_22 : decode cX10_putAhead 22 = .ok (.iload 5, 2) := by decide +kernel
theorem dX10_putAhead_24 : decode cX10_putAhead 24 = .ok (.iload_n 1, 1) := by decide +kernel
theorem dX10_putAhead_25 : decode cX10_putAhead 25 = .ok (.if_icmp .le 41, 3) := by decide +kernel
theorem dX10_putAhead_28 : decode cX10_putAhead 28 = .ok (.aload_n 0, 1) := by decide +kernel
theorem dX10_putAhead_29 : decode cX10_putAhead 29 = .ok (.getfield 29, 3) := by decide +kernel
theorem dX10_putAhead_32 : decode cX10_putAhead 32 = .ok (.iload 5, 2) := by decide +kernel
theorem dX10_putAhead_34 : decode cX10_putAhead 34 = .ok (.aload_n 0, 1) := by decide +kernel
theorem dX10_putAhead_35 : decode cX10_putAhead 35 = .ok (.getfield 29, 3) := by decide +kernel
theorem dX10_putAhead_38 : decode cX10_putAhead 38 = .ok (.iload 5, 2) := by decide +kernel
theorem dX10_putAhead_40 : decode cX10_putAhead 40 = .ok (.iconst 1, 1) := by decide +kernel
theorem dX10_putAhead_41 : decode cX10_putAhead 41 = .ok (.isub, 1) := by decide +kernel
theorem dX10_putAhead_42 : decode cX10_putAhead 42 = .ok (.iaload, 1) := by decide +kernel
theorem dX10_putAhead_43 : decode cX10_putAhead 43 = .ok (.iastore, 1) := by decide +kernel
theorem dX10_putAhead_44 : decode cX10_putAhead 44 = .ok (.aload_n 0, 1) := by decide +kernel
theorem dX10_putAhead_45 : decode cX10_putAhead 45 = .ok (.getfield 32, 3) := by decide +kernel
theorem dX10_putAhead_48 : decode cX10_putAhead 48 = .ok (.iload 5, 2) := by decide +kernel
theorem dX10_putAhead_50 : decode cX10_putAhead 50 = .ok (.aload_n 0, 1) := by decide +kernel
theorem dX10_putAhead_51 : decode cX10_putAhead 51 = .ok (.getfield 32, 3) := by decide +kernel
theorem dX10_putAhead_54 : decode cX10_putAhead 54 = .ok (.iload 5, 2) := by decide +kernel
theorem dX10_putAhead_56 : decode cX10_putAhead 56 = .ok (.iconst 1, 1) := by decide +kernel
theorem dX10_putAhead_57 : decode cX10_putAhead 57 = .ok (.isub, 1) := by decide +kernel
theorem dX10_putAhead_58 : decode cX10_putAhead 58 = .ok (.laload, 1) := by decide +kernel
theorem dX10_putAhead_59 : decode cX10_putAhead 59 = .ok (.lastore, 1) := by decide +kernel
theorem dX10_putAhead_60 : decode cX10_putAhead 60 = .ok (.iinc 5 (-1), 3) := by decide +kernel
theorem dX10_putAhead_63 : decode cX10_putAhead 63 = .ok (.goto (-41), 3) := by decide +kernel
theorem dX10_putAhead_66 : decode cX10_putAhead 66 = .ok (.aload_n 0, 1) := by decide +kernel
theorem dX10_putAhead_67 : decode cX10_putAhead 67 = .ok (.getfield 29, 3) := by decide +kernel
theorem dX10_putAhead_70 : decode cX10_putAhead 70 = .ok (.iload_n 1, 1) := by decide +kernel
theorem dX10_putAhead_71 : decode cX10_putAhead 71 = .ok (.iload_n 2, 1) := by decide +kernel
theorem dX10_putAhead_72 : decode cX10_putAhead 72 = .ok (.iastore, 1) := by decide +kernel
theorem dX10_putAhead_73 : decode cX10_putAhead 73 = .ok (.aload_n 0, 1) := by decide +kernel
theorem dX10_putAhead_74 : decode cX10_putAhead 74 = .ok (.getfield 32, 3) := by decide +kernel
theorem dX10_putAhead_77 : decode cX10_putAhead 77 = .ok (.iload_n 1, 1) := by decide +kernel
theorem dX10_putAhead_78 : decode cX10_putAhead 78 = .ok (.lload_n 3, 1) := by decide +kernel
theorem dX10_putAhead_79 : decode cX10_putAhead 79 = .ok (.lastore, 1) := by decide +kernel
theorem dX10_putAhead_80 : decode cX10_putAhead 80 = .ok (.return_, 1) := by decide +kernel
theorem dX10_handOver_0 : decode cX10_handOver 0 = .ok (.aload_n 0, 1) := by decide +kernel
theorem dX10_handOver_1 : decode cX10_handOver 1 = .ok (.getfield 9, 3) := by decide +kernel
theorem dX10_handOver_4 : decode cX10_handOver 4 = .ok (.iload_n 1, 1) := by decide +kernel
theorem dX10_handOver_5 : decode cX10_handOver 5 = .ok (.aload_n 0, 1) := by decide +kernel
theorem dX10_handOver_6 : decode cX10_handOver 6 = .ok (.getfield 90, 3) := by decide +kernel
theorem dX10_handOver_9 : decode cX10_handOver 9 = .ok (.iastore, 1) := by decide +kernel
theorem dX10_handOver_10 : decode cX10_handOver 10 = .ok (.iconst 0, 1) := by decide +kernel
theorem dX10_handOver_11 : decode cX10_handOver 11 = .ok (.istore_n 2, 1) := by decide +kernel
theorem dX10_handOver_12 : decode cX10_handOver 12 = .ok (.iload_n 2, 1) := by decide +kernel
theorem dX10_handOver_13 : decode cX10_handOver 13 = .ok (.aload_n 0, 1) := by decide +kernel
theorem dX10_handOver_14 : decode cX10_handOver 14 = .ok (.getfield 90, 3) := by decide +kernel
theorem dX10_handOver_17 : decode cX10_handOver 17 = .ok (.if_icmp .ge 50, 3) := by decide +kernel
theorem dX10_handOver_20 : decode cX10_handOver 20 = .ok (.aload_n 0, 1) := by decide +kernel
theorem dX10_handOver_21 : decode cX10_handOver 21 = .ok (.getfield 15, 3) := by decide +kernel
theorem dX10_handOver_24 : decode cX10_handOver 24 = .ok (.iload_n 1, 1) := by decide +kernel
theorem dX10_handOver_25 : decode cX10_handOver 25 = .ok (.aaload, 1) := by decide +kernel
theorem dX10_handOver_26 : decode cX10_handOver 26 = .ok (.iload_n 2, 1) := by decide +kernel
theorem dX10_handOver_27 : decode cX10_handOver 27 = .ok (.aload_n 0, 1) := by decide +kernel
theorem dX10_handOver_28 : decode cX10_handOver 28 = .ok (.getfield 29, 3) := by decide +kernel
theorem dX10_handOver_31 : decode cX10_handOver 31 = .ok (.iload_n 2, 1) := by decide +kernel
theorem dX10_handOver_32 : decode cX10_handOver 32 = .ok (.iaload, 1) := by decide +kernel
theorem dX10_handOver_33 : decode cX10_handOver 33 = .ok (.iastore, 1) := by decide +kernel
theorem dX10_handOver_34 : decode cX10_handOver 34 = .ok (.aload_n 0, 1) := by decide +kernel
theorem dX10_handOver_35 : decode cX10_handOver 35 = .ok (.getfield 20, 3) := by decide +kernel
theorem dX10_handOver_38 : decode cX10_handOver 38 = .ok (.iload_n 1, 1) := by decide +kernel
theorem dX10_handOver_39 : decode cX10_handOver 39 = .ok (.aaload, 1) := by decide +kernel
theorem dX10_handOver_40 : decode cX10_handOver 40 = .ok (.iload_n 2, 1) := by decide +kernel
theorem dX10_handOver_41 : decode cX10_handOver 41 = .ok (.aload_n 0, 1) := by decide +kernel
theorem dX10_handOver_42 : decode cX10_handOver 42 = .ok (.getfield 32, 3) := by decide +kernel
theorem dX10_handOver_45 : decode cX10_handOver 45 = .ok (.iload_n 2, 1) := by decide +kernel
theorem dX10_handOver_46 : decode cX10_handOver 46 = .ok (.laload, 1) := by decide +kernel
theorem dX10_handOver_47 : decode cX10_handOver 47 = .ok (.lastore, 1) := by decide +kernel
theorem dX10_handOver_48 : decode cX10_handOver 48 = .ok (.aload_n 0, 1) := by decide +kernel
theorem dX10_handOver_49 : decode cX10_handOver 49 = .ok (.getfield 23, 3) := by decide +kernel
theorem dX10_handOver_52 : decode cX10_handOver 52 = .ok (.iload_n 1, 1) := by decide +kernel
theorem dX10_handOver_53 : decode cX10_handOver 53 = .ok (.aaload, 1) := by decide +kernel
theorem dX10_handOver_54 : decode cX10_handOver 54 = .ok (.iload_n 2, 1) := by decide +kernel
theorem dX10_handOver_55 : decode cX10_handOver 55 = .ok (.aload_n 0, 1) := by decide +kernel
theorem dX10_handOver_56 : decode cX10_handOver 56 = .ok (.iload_n 2, 1) := by decide +kernel
theorem dX10_handOver_57 : decode cX10_handOver 57 = .ok (.invokevirtual 106, 3) := by decide +kernel
theorem dX10_handOver_60 : decode cX10_handOver 60 = .ok (.iastore, 1) := by decide +kernel
theorem dX10_handOver_61 : decode cX10_handOver 61 = .ok (.iinc 2 1, 3) := by decide +kernel
theorem dX10_handOver_64 : decode cX10_handOver 64 = .ok (.goto (-52), 3) := by decide +kernel
theorem dX10_handOver_67 : decode cX10_handOver 67 = .ok (.aload_n 0, 1) := by decide +kernel
theorem dX10_handOver_68 : decode cX10_handOver 68 = .ok (.getfield 90, 3) := by decide +kernel
theorem dX10_handOver_71 : decode cX10_handOver 71 = .ok (.ireturn, 1) := by decide +kernel
theorem dX10_again_0 : decode cX10_again 0 = .ok (.iload_n 2, 1) := by decide +kernel
theorem dX10_again_1 : decode cX10_again 1 = .ok (.istore_n 3, 1) := by decide +kernel
theorem dX10_again_2 : decode cX10_again 2 = .ok (.iload_n 3, 1) := by decide +kernel
theorem dX10_again_3 : decode cX10_again 3 = .ok (.aload_n 0, 1) := by decide +kernel
theorem dX10_again_4 : decode cX10_again 4 = .ok (.getfield 23, 3) := by decide +kernel
theorem dX10_again_7 : decode cX10_again 7 = .ok (.iload_n 1, 1) := by decide +kernel
theorem dX10_again_8 : decode cX10_again 8 = .ok (.aaload, 1) := by decide +kernel
theorem dX10_again_9 : decode cX10_again 9 = .ok (.iload_n 2, 1) := by decide +kernel
theorem dX10_again_10 : decode cX10_again 10 = .ok (.iaload, 1) := by decide +kernel
theorem dX10_again_11 : decode cX10_again 11 = .ok (.if_icmp .ge 36, 3) := by decide +kernel
theorem dX10_again_14 : decode cX10_again 14 = .ok (.aload_n 0, 1) := by decide +kernel
theorem dX10_again_15 : decode cX10_again 15 = .ok (.getfield 94, 3) := by decide +kernel
theorem dX10_again_18 : decode cX10_again 18 = .ok (.ifCond .ne 29, 3) := by decide +kernel
theorem dX10_again_21 : decode cX10_again 21 = .ok (.aload_n 0, 1) := by decide +kernel
theorem dX10_again_22 : decode cX10_again 22 = .ok (.aload_n 0, 1) := by decide +kernel
theorem dX10_again_23 : decode cX10_again 23 = .ok (.getfield 15, 3) := by decide +kernel
theorem dX10_again_26 : decode cX10_again 26 = .ok (.iload_n 1, 1) := by decide +kernel
theorem dX10_again_27 : decode cX10_again 27 = .ok (.aaload, 1) := by decide +kernel
theorem dX10_again_28 : decode cX10_again 28 = .ok (.iload_n 3, 1) := by decide +kernel
theorem dX10_again_29 : decode cX10_again 29 = .ok (.iaload, 1) := by decide +kernel
theorem dX10_again_30 : decode cX10_again 30 = .ok (.aload_n 0, 1) := by decide +kernel
theorem dX10_again_31 : decode cX10_again 31 = .ok (.getfield 20, 3) := by decide +kernel
theorem dX10_again_34 : decode cX10_again 34 = .ok (.iload_n 1, 1) := by decide +kernel
theorem dX10_again_35 : decode cX10_again 35 = .ok (.aaload, 1) := by decide +kernel
theorem dX10_again_36 : decode cX10_again 36 = .ok (.iload_n 3, 1) := by decide +kernel
theorem dX10_again_37 : decode cX10_again 37 = .ok (.laload, 1) := by decide +kernel
theorem dX10_again_38 : decode cX10_again 38 = .ok (.invokevirtual 102, 3) := by decide +kernel
theorem dX10_again_41 : decode cX10_again 41 = .ok (.iinc 3 1, 3) := by decide +kernel
theorem dX10_again_44 : decode cX10_again 44 = .ok (.goto (-42), 3) := by decide +kernel
theorem dX10_again_47 : decode cX10_again 47 = .ok (.return_, 1) := by decide +kernel
theorem dX10_second_0 : decode cX10_second 0 = .ok (.aload_n 0, 1) := by decide +kernel
theorem dX10_second_1 : decode cX10_second 1 = .ok (.getfield 23, 3) := by decide +kernel
theorem dX10_second_4 : decode cX10_second 4 = .ok (.iload_n 1, 1) := by decide +kernel
theorem dX10_second_5 : decode cX10_second 5 = .ok (.aaload, 1) := by decide +kernel
theorem dX10_second_6 : decode cX10_second 6 = .ok (.iload_n 2, 1) := by decide +kernel
theorem dX10_second_7 : decode cX10_second 7 = .ok (.iconst 1, 1) := by decide +kernel
theorem dX10_second_8 : decode cX10_second 8 = .ok (.iadd, 1) := by decide +kernel
theorem dX10_second_9 : decode cX10_second 9 = .ok (.iaload, 1) := by decide +kernel
theorem dX10_second_10 : decode cX10_second 10 = .ok (.ireturn, 1) := by decide +kernel
theorem dX10_third_0 : decode cX10_third 0 = .ok (.aload_n 0, 1) := by decide +kernel
theorem dX10_third_1 : decode cX10_third 1 = .ok (.getfield 23, 3) := by decide +kernel
theorem dX10_third_4 : decode cX10_third 4 = .ok (.iload_n 1, 1) := by decide +kernel
theorem dX10_third_5 : decode cX10_third 5 = .ok (.aaload, 1) := by decide +kernel
theorem dX10_third_6 : decode cX10_third 6 = .ok (.aload_n 0, 1) := by decide +kernel
theorem dX10_third_7 : decode cX10_third 7 = .ok (.iload_n 1, 1) := by decide +kernel
theorem dX10_third_8 : decode cX10_third 8 = .ok (.iload_n 2, 1) := by decide +kernel
theorem dX10_third_9 : decode cX10_third 9 = .ok (.invokevirtual 109, 3) := by decide +kernel
theorem dX10_third_12 : decode cX10_third 12 = .ok (.iaload, 1) := by decide +kernel
theorem dX10_third_13 : decode cX10_third 13 = .ok (.ireturn, 1) := by decide +kernel
theorem dX10_isByte_0 : decode cX10_isByte 0 = .ok (.iload_n 0, 1) := by decide +kernel
theorem dX10_isByte_1 : decode cX10_isByte 1 = .ok (.iconst 0, 1) := by decide +kernel
theorem dX10_isByte_2 : decode cX10_isByte 2 = .ok (.sipush 255, 3) := by decide +kernel
theorem dX10_isByte_5 : decode cX10_isByte 5 = .ok (.invokestatic 84, 3) := by decide +kernel
theorem dX10_isByte_8 : decode cX10_isByte 8 = .ok (.ireturn, 1) := by decide +kernel
theorem dX10_feed_0 : decode cX10_feed 0 = .ok (.iload_n 1, 1) := by decide +kernel
theorem dX10_feed_1 : decode cX10_feed 1 = .ok (.iconst 1, 1) := by decide +kernel
theorem dX10_feed_2 : decode cX10_feed 2 = .ok (.iconst 5, 1) := by decide +kernel
theorem dX10_feed_3 : decode cX10_feed 3 = .ok (.invokestatic 84, 3) := by decide +kernel
theorem dX10_feed_6 : decode cX10_feed 6 = .ok (.ifCond .eq 41, 3) := by decide +kernel
theorem dX10_feed_9 : decode cX10_feed 9 = .ok (.iload_n 2, 1) := by decide +kernel
theorem dX10_feed_10 : decode cX10_feed 10 = .ok (.invokestatic 113, 3) := by decide +kernel
theorem dX10_feed_13 : decode cX10_feed 13 = .ok (.ifCond .eq 34, 3) := by decide +kernel
theorem dX10_feed_16 : decode cX10_feed 16 = .ok (.iload_n 3, 1) := by decide +kernel
theorem dX10_feed_17 : decode cX10_feed 17 = .ok (.invokestatic 113, 3) := by decide +kernel
theorem dX10_feed_20 : decode cX10_feed 20 = .ok (.ifCond .eq 27, 3) := by decide +kernel
theorem dX10_feed_23 : decode cX10_feed 23 = .ok (.iload 4, 2) := by decide +kernel
theorem dX10_feed_25 : decode cX10_feed 25 = .ok (.invokestatic 113, 3) := by decide +kernel
theorem dX10_feed_28 : decode cX10_feed 28 = .ok (.ifCond .eq 19, 3) := by decide +kernel
theorem dX10_feed_31 : decode cX10_feed 31 = .ok (.iload 5, 2) := by decide +kernel
theorem dX10_feed_33 : decode cX10_feed 33 = .ok (.invokestatic 113, 3) := by decide +kernel
theorem dX10_feed_36 : decode cX10_feed 36 = .ok (.ifCond .eq 11, 3) := by decide +kernel
theorem dX10_feed_39 : decode cX10_feed 39 = .ok (.iload 6, 2) := by decide +kernel
theorem dX10_feed_41 : decode cX10_feed 41 = .ok (.invokestatic 113, 3) := by decide +kernel
theorem dX10_feed_44 : decode cX10_feed 44 = .ok (.ifCond .ne 6, 3) := by decide +kernel
theorem dX10_feed_47 : decode cX10_feed 47 = .ok (.bipush (-2), 2) := by decide +kernel
theorem dX10_feed_49 : decode cX10_feed 49 = .ok (.ireturn, 1) := by decide +kernel
theorem dX10_feed_50 : decode cX10_feed 50 = .ok (.aload_n 0, 1) := by decide +kernel
theorem dX10_feed_51 : decode cX10_feed 51 = .ok (.getfield 117, 3) := by decide +kernel
theorem dX10_feed_54 : decode cX10_feed 54 = .ok (.iload_n 1, 1) := by decide +kernel
theorem dX10_feed_55 : decode cX10_feed 55 = .ok (.iadd, 1) := by decide +kernel
theorem dX10_feed_56 : decode cX10_feed 56 = .ok (.bipush 120, 2) := by decide +kernel
theorem dX10_feed_58 : decode cX10_feed 58 = .ok (.if_icmp .le 6, 3) := by decide +kernel
theorem dX10_feed_61 : decode cX10_feed 61 = .ok (.bipush (-4), 2) := by decide +kernel
theorem dX10_feed_63 : decode cX10_feed 63 = .ok (.ireturn, 1) := by decide +kernel
theorem dX10_feed_64 : decode cX10_feed 64 = .ok (.iconst 0, 1) := by decide +kernel
theorem dX10_feed_65 : decode cX10_feed 65 = .ok (.istore 7, 2) := by decide +kernel
theorem dX10_feed_67 : decode cX10_feed 67 = .ok (.iload 7, 2) := by decide +kernel
theorem dX10_feed_69 : decode cX10_feed 69 = .ok (.iload_n 1, 1) := by decide +kernel
theorem dX10_feed_70 : decode cX10_feed 70 = .ok (.if_icmp .ge 64, 3) := by decide +kernel
theorem dX10_feed_73 : decode cX10_feed 73 = .ok (.aload_n 0, 1) := by decide +kernel
theorem dX10_feed_74 : decode cX10_feed 74 = .ok (.getfield 36, 3) := by decide +kernel
theorem dX10_feed_77 : decode cX10_feed 77 = .ok (.aload_n 0, 1) := by decide +kernel
theorem dX10_feed_78 : decode cX10_feed 78 = .ok (.getfield 117, 3) := by decide +kernel
theorem dX10_feed_81 : decode cX10_feed 81 = .ok (.iload 7, 2) := by decide +kernel
theorem dX10_feed_83 : decode cX10_feed 83 = .ok (.iadd, 1) := by decide +kernel
theorem dX10_feed_84 : decode cX10_feed 84 = .ok (.iload 7, 2) := by decide +kernel
theorem dX10_feed_86 : decode cX10_feed 86 = .ok (.ifCond .ne 7, 3) := by decide +kernel
theorem dX10_feed_89 : decode cX10_feed 89 = .ok (.iload_n 2, 1) := by decide +kernel
theorem dX10_feed_90 : decode cX10_feed 90 = .ok (.goto 37, 3) := by decide +kernel
theorem dX10_feed_93 : decode cX10_feed 93 = .ok (.iload 7, 2) := by decide +kernel
theorem dX10_feed_95 : decode cX10_feed 95 = .ok (.iconst 1, 1) := by decide +kernel
theorem dX10_feed_96 : decode cX10_feed 96 = .ok (.if_icmp .ne 7, 3) := by decide +kernel
theorem dX10_feed_99 : decode cX10_feed 99 = .ok (.iload_n 3, 1) := by decide +kernel
