theorem dX11_fault_17 : decode cX11_fault 17 = .ok (.getfield 13, 3) := by decide +kernel
theorem dX11_fault_20 : decode cX11_fault 20 = .ok (.goto 4, 3) := by decide +kernel
theorem dX11_fault_23 : decode cX11_fault 23 = .ok (.iconst (-1), 1) := by decide +kernel
theorem dX11_fault_24 : decode cX11_fault 24 = .ok (.ireturn, 1) := by decide +kernel
theorem dX11_people_0 : decode cX11_people 0 = .ok (.aload_n 0, 1) := by decide +kernel
theorem dX11_people_1 : decode cX11_people 1 = .ok (.getfield 121, 3) := by decide +kernel
theorem dX11_people_4 : decode cX11_people 4 = .ok (.iconst 5, 1) := by decide +kernel
theorem dX11_people_5 : decode cX11_people 5 = .ok (.iaload, 1) := by decide +kernel
theorem dX11_people_6 : decode cX11_people 6 = .ok (.ireturn, 1) := by decide +kernel
theorem dX11_hatMany_0 : decode cX11_hatMany 0 = .ok (.aload_n 0, 1) := by decide +kernel
theorem dX11_hatMany_1 : decode cX11_hatMany 1 = .ok (.getfield 121, 3) := by decide +kernel
theorem dX11_hatMany_4 : decode cX11_hatMany 4 = .ok (.iconst 4, 1) := by decide +kernel
theorem dX11_hatMany_5 : decode cX11_hatMany 5 = .ok (.iaload, 1) := by decide +kernel
theorem dX11_hatMany_6 : decode cX11_hatMany 6 = .ok (.ireturn, 1) := by decide +kernel
theorem dX11_isPerson_0 : decode cX11_isPerson 0 = .ok (.iload_n 1, 1) := by decide +kernel
theorem dX11_isPerson_1 : decode cX11_isPerson 1 = .ok (.i2l, 1) := by decide +kernel
theorem dX11_isPerson_2 : decode cX11_isPerson 2 = .ok (.lconst 0, 1) := by decide +kernel
theorem dX11_isPerson_3 : decode cX11_isPerson 3 = .ok (.aload_n 0, 1) := by decide +kernel
theorem dX11_isPerson_4 : decode cX11_isPerson 4 = .ok (.invokevirtual 424, 3) := by decide +kernel
theorem dX11_isPerson_7 : decode cX11_isPerson 7 = .ok (.iconst 1, 1) := by decide +kernel
theorem dX11_isPerson_8 : decode cX11_isPerson 8 = .ok (.isub, 1) := by decide +kernel
theorem dX11_isPerson_9 : decode cX11_isPerson 9 = .ok (.i2l, 1) := by decide +kernel
theorem dX11_isPerson_10 : decode cX11_isPerson 10 = .ok (.invokestatic 264, 3) := by decide +kernel
theorem dX11_isPerson_13 : decode cX11_isPerson 13 = .ok (.ireturn, 1) := by decide +kernel
theorem dX11_isHat_0 : decode cX11_isHat 0 = .ok (.iload_n 1, 1) := by decide +kernel
theorem dX11_isHat_1 : decode cX11_isHat 1 = .ok (.i2l, 1) := by decide +kernel
theorem dX11_isHat_2 : decode cX11_isHat 2 = .ok (.lconst 0, 1) := by decide +kernel
theorem dX11_isHat_3 : decode cX11_isHat 3 = .ok (.aload_n 0, 1) := by decide +kernel
theorem dX11_isHat_4 : decode cX11_isHat 4 = .ok (.invokevirtual 427, 3) := by decide +kernel
theorem dX11_isHat_7 : decode cX11_isHat 7 = .ok (.iconst 1, 1) := by decide +kernel
theorem dX11_isHat_8 : decode cX11_isHat 8 = .ok (.isub, 1) := by decide +kernel
theorem dX11_isHat_9 : decode cX11_isHat 9 = .ok (.i2l, 1) := by decide +kernel
theorem dX11_isHat_10 : decode cX11_isHat 10 = .ok (.invokestatic 264, 3) := by decide +kernel
theorem dX11_isHat_13 : decode cX11_isHat 13 = .ok (.ireturn, 1) := by decide +kernel
theorem dX11_has_0 : decode cX11_has 0 = .ok (.iconst 0, 1) := by decide +kernel
theorem dX11_has_1 : decode cX11_has 1 = .ok (.istore_n 2, 1) := by decide +kernel
theorem dX11_has_2 : decode cX11_has 2 = .ok (.iload_n 1, 1) := by decide +kernel
theorem dX11_has_3 : decode cX11_has 3 = .ok (.tableswitch 121 0 8 #[49, 49, 58, 63, 68, 75, 80, 85, 90], 49) := by decide +kernel
theorem dX11_has_52 : decode cX11_has 52 = .ok (.aload_n 0, 1) := by decide +kernel
theorem dX11_has_53 : decode cX11_has 53 = .ok (.getfield 121, 3) := by decide +kernel
theorem dX11_has_56 : decode cX11_has 56 = .ok (.iconst 3, 1) := by decide +kernel
theorem dX11_has_57 : decode cX11_has 57 = .ok (.iload_n 1, 1) := by decide +kernel
theorem dX11_has_58 : decode cX11_has 58 = .ok (.iadd, 1) := by decide +kernel
theorem dX11_has_59 : decode cX11_has 59 = .ok (.iaload, 1) := by decide +kernel
theorem dX11_has_60 : decode cX11_has 60 = .ok (.ireturn, 1) := by decide +kernel
theorem dX11_has_61 : decode cX11_has 61 = .ok (.aload_n 0, 1) := by decide +kernel
theorem dX11_has_62 : decode cX11_has 62 = .ok (.invokevirtual 424, 3) := by decide +kernel
theorem dX11_has_65 : decode cX11_has 65 = .ok (.ireturn, 1) := by decide +kernel
theorem dX11_has_66 : decode cX11_has 66 = .ok (.aload_n 0, 1) := by decide +kernel
theorem dX11_has_67 : decode cX11_has 67 = .ok (.getfield 355, 3) := by decide +kernel
theorem dX11_has_70 : decode cX11_has 70 = .ok (.ireturn, 1) := by decide +kernel
theorem dX11_has_71 : decode cX11_has 71 = .ok (.aload_n 0, 1) := by decide +kernel
theorem dX11_has_72 : decode cX11_has 72 = .ok (.getfield 151, 3) := by decide +kernel
theorem dX11_has_75 : decode cX11_has 75 = .ok (.iconst 0, 1) := by decide +kernel
theorem dX11_has_76 : decode cX11_has 76 = .ok (.iaload, 1) := by decide +kernel
theorem dX11_has_77 : decode cX11_has 77 = .ok (.ireturn, 1) := by decide +kernel
theorem dX11_has_78 : decode cX11_has 78 = .ok (.aload_n 0, 1) := by decide +kernel
theorem dX11_has_79 : decode cX11_has 79 = .ok (.getfield 142, 3) := by decide +kernel
theorem dX11_has_82 : decode cX11_has 82 = .ok (.ireturn, 1) := by decide +kernel
theorem dX11_has_83 : decode cX11_has 83 = .ok (.aload_n 0, 1) := by decide +kernel
theorem dX11_has_84 : decode cX11_has 84 = .ok (.getfield 358, 3) := by decide +kernel
theorem dX11_has_87 : decode cX11_has 87 = .ok (.ireturn, 1) := by decide +kernel
theorem dX11_has_88 : decode cX11_has 88 = .ok (.aload_n 0, 1) := by decide +kernel
theorem dX11_has_89 : decode cX11_has 89 = .ok (.getfield 361, 3) := by decide +kernel
theorem dX11_has_92 : decode cX11_has 92 = .ok (.ireturn, 1) := by decide +kernel
theorem dX11_has_93 : decode cX11_has 93 = .ok (.iconst 0, 1) := by decide +kernel
theorem dX11_has_94 : decode cX11_has 94 = .ok (.istore_n 3, 1) := by decide +kernel
theorem dX11_has_95 : decode cX11_has 95 = .ok (.iload_n 3, 1) := by decide +kernel
theorem dX11_has_96 : decode cX11_has 96 = .ok (.aload_n 0, 1) := by decide +kernel
theorem dX11_has_97 : decode cX11_has 97 = .ok (.invokevirtual 424, 3) := by decide +kernel
theorem dX11_has_100 : decode cX11_has 100 = .ok (.if_icmp .ge 22, 3) := by decide +kernel
theorem dX11_has_103 : decode cX11_has 103 = .ok (.aload_n 0, 1) := by decide +kernel
theorem dX11_has_104 : decode cX11_has 104 = .ok (.getfield 169, 3) := by decide +kernel
theorem dX11_has_107 : decode cX11_has 107 = .ok (.iload_n 3, 1) := by decide +kernel
theorem dX11_has_108 : decode cX11_has 108 = .ok (.iaload, 1) := by decide +kernel
theorem dX11_has_109 : decode cX11_has 109 = .ok (.iconst (-1), 1) := by decide +kernel
theorem dX11_has_110 : decode cX11_has 110 = .ok (.if_icmp .ne 6, 3) := by decide +kernel
theorem dX11_has_113 : decode cX11_has 113 = .ok (.iinc 2 1, 3) := by decide +kernel
theorem dX11_has_116 : decode cX11_has 116 = .ok (.iinc 3 1, 3) := by decide +kernel
theorem dX11_has_119 : decode cX11_has 119 = .ok (.goto (-24), 3) := by decide +kernel
theorem dX11_has_122 : decode cX11_has 122 = .ok (.iload_n 2, 1) := by decide +kernel
theorem dX11_has_123 : decode cX11_has 123 = .ok (.ireturn, 1) := by decide +kernel
theorem dX11_has_124 : decode cX11_has 124 = .ok (.iconst (-1), 1) := by decide +kernel
theorem dX11_has_125 : decode cX11_has 125 = .ok (.ireturn, 1) := by decide +kernel
theorem dX11_letter_0 : decode cX11_letter 0 = .ok (.iload_n 1, 1) := by decide +kernel
theorem dX11_letter_1 : decode cX11_letter 1 = .ok (.i2l, 1) := by decide +kernel
theorem dX11_letter_2 : decode cX11_letter 2 = .ok (.lconst 0, 1) := by decide +kernel
theorem dX11_letter_3 : decode cX11_letter 3 = .ok (.ldc2_w 430, 3) := by decide +kernel
theorem dX11_letter_6 : decode cX11_letter 6 = .ok (.invokestatic 264, 3) := by decide +kernel
theorem dX11_letter_9 : decode cX11_letter 9 = .ok (.ifCond .eq 35, 3) := by decide +kernel
theorem dX11_letter_12 : decode cX11_letter 12 = .ok (.iload_n 2, 1) := by decide +kernel
theorem dX11_letter_13 : decode cX11_letter 13 = .ok (.i2l, 1) := by decide +kernel
theorem dX11_letter_14 : decode cX11_letter 14 = .ok (.lconst 0, 1) := by decide +kernel
theorem dX11_letter_15 : decode cX11_letter 15 = .ok (.aload_n 0, 1) := by decide +kernel
theorem dX11_letter_16 : decode cX11_letter 16 = .ok (.getfield 121, 3) := by decide +kernel
theorem dX11_letter_19 : decode cX11_letter 19 = .ok (.iconst 3, 1) := by decide +kernel
theorem dX11_letter_20 : decode cX11_letter 20 = .ok (.iload_n 1, 1) := by decide +kernel
theorem dX11_letter_21 : decode cX11_letter 21 = .ok (.iadd, 1) := by decide +kernel
theorem dX11_letter_22 : decode cX11_letter 22 = .ok (.iaload, 1) := by decide +kernel
theorem dX11_letter_23 : decode cX11_letter 23 = .ok (.iconst 1, 1) := by decide +kernel
theorem dX11_letter_24 : decode cX11_letter 24 = .ok (.isub, 1) := by decide +kernel
theorem dX11_letter_25 : decode cX11_letter 25 = .ok (.i2l, 1) := by decide +kernel
theorem dX11_letter_26 : decode cX11_letter 26 = .ok (.invokestatic 264, 3) := by decide +kernel
theorem dX11_letter_29 : decode cX11_letter 29 = .ok (.ifCond .eq 15, 3) := by decide +kernel
theorem dX11_letter_32 : decode cX11_letter 32 = .ok (.iload_n 3, 1) := by decide +kernel
theorem dX11_letter_33 : decode cX11_letter 33 = .ok (.i2l, 1) := by decide +kernel
theorem dX11_letter_34 : decode cX11_letter 34 = .ok (.lconst 0, 1) := by decide +kernel
theorem dX11_letter_35 : decode cX11_letter 35 = .ok (.ldc2_w 432, 3) := by decide +kernel
theorem dX11_letter_38 : decode cX11_letter 38 = .ok (.invokestatic 264, 3) := by decide +kernel
theorem dX11_letter_41 : decode cX11_letter 41 = .ok (.ifCond .ne 5, 3) := by decide +kernel
theorem dX11_letter_44 : decode cX11_letter 44 = .ok (.iconst (-1), 1) := by decide +kernel
theorem dX11_letter_45 : decode cX11_letter 45 = .ok (.ireturn, 1) := by decide +kernel
theorem dX11_letter_46 : decode cX11_letter 46 = .ok (.aload_n 0, 1) := by decide +kernel
theorem dX11_letter_47 : decode cX11_letter 47 = .ok (.getfield 117, 3) := by decide +kernel
theorem dX11_letter_50 : decode cX11_letter 50 = .ok (.bipush 36, 2) := by decide +kernel
theorem dX11_letter_52 : decode cX11_letter 52 = .ok (.bipush 12, 2) := by decide +kernel
theorem dX11_letter_54 : decode cX11_letter 54 = .ok (.iload_n 1, 1) := by decide +kernel
theorem dX11_letter_55 : decode cX11_letter 55 = .ok (.imul, 1) := by decide +kernel
theorem dX11_letter_56 : decode cX11_letter 56 = .ok (.iadd, 1) := by decide +kernel
theorem dX11_letter_57 : decode cX11_letter 57 = .ok (.iload_n 2, 1) := by decide +kernel
theorem dX11_letter_58 : decode cX11_letter 58 = .ok (.iadd, 1) := by decide +kernel
theorem dX11_letter_59 : decode cX11_letter 59 = .ok (.laload, 1) := by decide +kernel
theorem dX11_letter_60 : decode cX11_letter 60 = .ok (.lstore 4, 2) := by decide +kernel
theorem dX11_letter_62 : decode cX11_letter 62 = .ok (.iconst 0, 1) := by decide +kernel
theorem dX11_letter_63 : decode cX11_letter 63 = .ok (.istore 6, 2) := by decide +kernel
theorem dX11_letter_65 : decode cX11_letter 65 = .ok (.lload 4, 2) := by decide +kernel
theorem dX11_letter_67 : decode cX11_letter 67 = .ok (.lstore 7, 2) := by decide +kernel
theorem dX11_letter_69 : decode cX11_letter 69 = .ok (.lload 7, 2) := by decide +kernel
theorem dX11_letter_71 : decode cX11_letter 71 = .ok (.lconst 0, 1) := by decide +kernel
theorem dX11_letter_72 : decode cX11_letter 72 = .ok (.lcmp, 1) := by decide +kernel
theorem dX11_letter_73 : decode cX11_letter 73 = .ok (.ifCond .le 17, 3) := by decide +kernel
theorem dX11_letter_76 : decode cX11_letter 76 = .ok (.iinc 6 1, 3) := by decide +kernel
theorem dX11_letter_79 : decode cX11_letter 79 = .ok (.lload 7, 2) := by decide +kernel
theorem dX11_letter_81 : decode cX11_letter 81 = .ok (.ldc2_w 275, 3) := by decide +kernel
theorem dX11_letter_84 : decode cX11_letter 84 = .ok (.ldiv, 1) := by decide +kernel
theorem dX11_letter_85 : decode cX11_letter 85 = .ok (.lstore 7, 2) := by decide +kernel
theorem dX11_letter_87 : decode cX11_letter 87 = .ok (.goto (-18), 3) := by decide +kernel
theorem dX11_letter_90 : decode cX11_letter 90 = .ok (.iload_n 3, 1) := by decide +kernel
theorem dX11_letter_91 : decode cX11_letter 91 = .ok (.iload 6, 2) := by decide +kernel
theorem dX11_letter_93 : decode cX11_letter 93 = .ok (.if_icmp .lt 5, 3) := by decide +kernel
theorem dX11_letter_96 : decode cX11_letter 96 = .ok (.iconst 0, 1) := by decide +kernel
theorem dX11_letter_97 : decode cX11_letter 97 = .ok (.ireturn, 1) := by decide +kernel
theorem dX11_letter_98 : decode cX11_letter 98 = .ok (.iload 6, 2) := by decide +kernel
theorem dX11_letter_100 : decode cX11_letter 100 = .ok (.iconst 1, 1) := by decide +kernel
theorem dX11_letter_101 : decode cX11_letter 101 = .ok (.isub, 1) := by decide +kernel
theorem dX11_letter_102 : decode cX11_letter 102 = .ok (.istore 7, 2) := by decide +kernel
theorem dX11_letter_104 : decode cX11_letter 104 = .ok (.iload 7, 2) := by decide +kernel
theorem dX11_letter_106 : decode cX11_letter 106 = .ok (.iload_n 3, 1) := by decide +kernel
theorem dX11_letter_107 : decode cX11_letter 107 = .ok (.if_icmp .le 17, 3) := by decide +kernel
theorem dX11_letter_110 : decode cX11_letter 110 = .ok (.lload 4, 2) := by decide +kernel
theorem dX11_letter_112 : decode cX11_letter 112 = .ok (.ldc2_w 275, 3) := by decide +kernel
theorem dX11_letter_115 : decode cX11_letter 115 = .ok (.ldiv, 1) := by decide +kernel
theorem dX11_letter_116 : decode cX11_letter 116 = .ok (.lstore 4, 2) := by decide +kernel
theorem dX11_letter_118 : decode cX11_letter 118 = .ok (.iinc 7 (-1), 3) := by decide +kernel
theorem dX11_letter_121 : decode cX11_letter 121 = .ok (.goto (-17), 3) := by decide +kernel
theorem dX11_letter_124 : decode cX11_letter 124 = .ok (.lload 4, 2) := by decide +kernel
theorem dX11_letter_126 : decode cX11_letter 126 = .ok (.ldc2_w 275, 3) := by decide +kernel
theorem dX11_letter_129 : decode cX11_letter 129 = .ok (.lrem, 1) := by decide +kernel
theorem dX11_letter_130 : decode cX11_letter 130 = .ok (.l2i, 1) := by decide +kernel
theorem dX11_letter_131 : decode cX11_letter 131 = .ok (.ireturn, 1) := by decide +kernel
theorem dX11_sort_0 : decode cX11_sort 0 = .ok (.aload_n 0, 1) := by decide +kernel
theorem dX11_sort_1 : decode cX11_sort 1 = .ok (.getfield 124, 3) := by decide +kernel
theorem dX11_sort_4 : decode cX11_sort 4 = .ok (.bipush 30, 2) := by decide +kernel
theorem dX11_sort_6 : decode cX11_sort 6 = .ok (.iconst 5, 1) := by decide +kernel
theorem dX11_sort_7 : decode cX11_sort 7 = .ok (.aload_n 0, 1) := by decide +kernel
theorem dX11_sort_8 : decode cX11_sort 8 = .ok (.getfield 166, 3) := by decide +kernel
theorem dX11_sort_11 : decode cX11_sort 11 = .ok (.iload_n 1, 1) := by decide +kernel
theorem dX11_sort_12 : decode cX11_sort 12 = .ok (.iaload, 1) := by decide +kernel
theorem dX11_sort_13 : decode cX11_sort 13 = .ok (.imul, 1) := by decide +kernel
theorem dX11_sort_14 : decode cX11_sort 14 = .ok (.iadd, 1) := by decide +kernel
theorem dX11_sort_15 : decode cX11_sort 15 = .ok (.iload_n 2, 1) := by decide +kernel
theorem dX11_sort_16 : decode cX11_sort 16 = .ok (.iadd, 1) := by decide +kernel
theorem dX11_sort_17 : decode cX11_sort 17 = .ok (.iaload, 1) := by decide +kernel
theorem dX11_sort_18 : decode cX11_sort 18 = .ok (.ireturn, 1) := by decide +kernel
theorem dX11_hatIs_0 : decode cX11_hatIs 0 = .ok (.aload_n 0, 1) := by decide +kernel
theorem dX11_hatIs_1 : decode cX11_hatIs 1 = .ok (.getfield 127, 3) := by decide +kernel
theorem dX11_hatIs_4 : decode cX11_hatIs 4 = .ok (.bipush 16, 2) := by decide +kernel
theorem dX11_hatIs_6 : decode cX11_hatIs 6 = .ok (.iconst 4, 1) := by decide +kernel
theorem dX11_hatIs_7 : decode cX11_hatIs 7 = .ok (.iload_n 1, 1) := by decide +kernel
theorem dX11_hatIs_8 : decode cX11_hatIs 8 = .ok (.imul, 1) := by decide +kernel
theorem dX11_hatIs_9 : decode cX11_hatIs 9 = .ok (.iadd, 1) := by decide +kernel
theorem dX11_hatIs_10 : decode cX11_hatIs 10 = .ok (.iload_n 2, 1) := by decide +kernel
theorem dX11_hatIs_11 : decode cX11_hatIs 11 = .ok (.iadd, 1) := by decide +kernel
theorem dX11_hatIs_12 : decode cX11_hatIs 12 = .ok (.iaload, 1) := by decide +kernel
theorem dX11_hatIs_13 : decode cX11_hatIs 13 = .ok (.ireturn, 1) := by decide +kernel
theorem dX11_earned_0 : decode cX11_earned 0 = .ok (.aload_n 0, 1) := by decide +kernel
theorem dX11_earned_1 : decode cX11_earned 1 = .ok (.getfield 175, 3) := by decide +kernel
theorem dX11_earned_4 : decode cX11_earned 4 = .ok (.iload_n 1, 1) := by decide +kernel
theorem dX11_earned_5 : decode cX11_earned 5 = .ok (.iaload, 1) := by decide +kernel
theorem dX11_earned_6 : decode cX11_earned 6 = .ok (.aload_n 0, 1) := by decide +kernel
theorem dX11_earned_7 : decode cX11_earned 7 = .ok (.iload_n 1, 1) := by decide +kernel
theorem dX11_earned_8 : decode cX11_earned 8 = .ok (.iconst 0, 1) := by decide +kernel
theorem dX11_earned_9 : decode cX11_earned 9 = .ok (.invokevirtual 434, 3) := by decide +kernel
theorem dX11_earned_12 : decode cX11_earned 12 = .ok (.imul, 1) := by decide +kernel
theorem dX11_earned_13 : decode cX11_earned 13 = .ok (.ireturn, 1) := by decide +kernel
theorem dX11_slip_0 : decode cX11_slip 0 = .ok (.aload_n 0, 1) := by decide +kernel
theorem dX11_slip_1 : decode cX11_slip 1 = .ok (.getfield 169, 3) := by decide +kernel
theorem dX11_slip_4 : decode cX11_slip 4 = .ok (.iload_n 1, 1) := by decide +kernel
theorem dX11_slip_5 : decode cX11_slip 5 = .ok (.iaload, 1) := by decide +kernel
theorem dX11_slip_6 : decode cX11_slip 6 = .ok (.iconst (-1), 1) := by decide +kernel
theorem dX11_slip_7 : decode cX11_slip 7 = .ok (.if_icmp .ne 7, 3) := by decide +kernel
theorem dX11_slip_10 : decode cX11_slip 10 = .ok (.iconst 0, 1) := by decide +kernel
theorem dX11_slip_11 : decode cX11_slip 11 = .ok (.goto 26, 3) := by decide +kernel
theorem dX11_slip_14 : decode cX11_slip 14 = .ok (.aload_n 0, 1) := by decide +kernel
theorem dX11_slip_15 : decode cX11_slip 15 = .ok (.iload_n 1, 1) := by decide +kernel
theorem dX11_slip_16 : decode cX11_slip 16 = .ok (.invokevirtual 437, 3) := by decide +kernel
theorem dX11_slip_19 : decode cX11_slip 19 = .ok (.bipush 100, 2) := by decide +kernel
theorem dX11_slip_21 : decode cX11_slip 21 = .ok (.aload_n 0, 1) := by decide +kernel
theorem dX11_slip_22 : decode cX11_slip 22 = .ok (.aload_n 0, 1) := by decide +kernel
theorem dX11_slip_23 : decode cX11_slip 23 = .ok (.getfield 169, 3) := by decide +kernel
theorem dX11_slip_26 : decode cX11_slip 26 = .ok (.iload_n 1, 1) := by decide +kernel
theorem dX11_slip_27 : decode cX11_slip 27 = .ok (.iaload, 1) := by decide +kernel
theorem dX11_slip_28 : decode cX11_slip 28 = .ok (.iconst 0, 1) := by decide +kernel
theorem dX11_slip_29 : decode cX11_slip 29 = .ok (.invokevirtual 440, 3) := by decide +kernel
theorem dX11_slip_32 : decode cX11_slip 32 = .ok (.isub, 1) := by decide +kernel
theorem dX11_slip_33 : decode cX11_slip 33 = .ok (.imul, 1) := by decide +kernel
theorem dX11_slip_34 : decode cX11_slip 34 = .ok (.bipush 100, 2) := by decide +kernel
theorem dX11_slip_36 : decode cX11_slip 36 = .ok (.idiv, 1) := by decide +kernel
theorem dX11_slip_37 : decode cX11_slip 37 = .ok (.ireturn, 1) := by decide +kernel
theorem dX11_keptOf_0 : decode cX11_keptOf 0 = .ok (.aload_n 0, 1) := by decide +kernel
theorem dX11_keptOf_1 : decode cX11_keptOf 1 = .ok (.iload_n 1, 1) := by decide +kernel
theorem dX11_keptOf_2 : decode cX11_keptOf 2 = .ok (.invokevirtual 437, 3) := by decide +kernel
theorem dX11_keptOf_5 : decode cX11_keptOf 5 = .ok (.aload_n 0, 1) := by decide +kernel
theorem dX11_keptOf_6 : decode cX11_keptOf 6 = .ok (.iload_n 1, 1) := by decide +kernel
theorem dX11_keptOf_7 : decode cX11_keptOf 7 = .ok (.invokevirtual 443, 3) := by decide +kernel
theorem dX11_keptOf_10 : decode cX11_keptOf 10 = .ok (.isub, 1) := by decide +kernel
theorem dX11_keptOf_11 : decode cX11_keptOf 11 = .ok (.ireturn, 1) := by decide +kernel
theorem dX11_inHat_0 : decode cX11_inHat 0 = .ok (.iconst 0, 1) := by decide +kernel
theorem dX11_inHat_1 : decode cX11_inHat 1 = .ok (.istore_n 2, 1) := by decide +kernel
theorem dX11_inHat_2 : decode cX11_inHat 2 = .ok (.aload_n 0, 1) := by decide +kernel
theorem dX11_inHat_3 : decode cX11_inHat 3 = .ok (.getfield 364, 3) := by decide +kernel
theorem dX11_inHat_6 : decode cX11_inHat 6 = .ok (.istore_n 3, 1) := by decide +kernel
theorem dX11_inHat_7 : decode cX11_inHat 7 = .ok (.iload_n 3, 1) := by decide +kernel
theorem dX11_inHat_8 : decode cX11_inHat 8 = .ok (.aload_n 0, 1) := by decide +kernel
theorem dX11_inHat_9 : decode cX11_inHat 9 = .ok (.getfield 364, 3) := by decide +kernel
theorem dX11_inHat_12 : decode cX11_inHat 12 = .ok (.aload_n 0, 1) := by decide +kernel
theorem dX11_inHat_13 : decode cX11_inHat 13 = .ok (.getfield 367, 3) := by decide +kernel
theorem dX11_inHat_16 : decode cX11_inHat 16 = .ok (.iadd, 1) := by decide +kernel
theorem dX11_inHat_17 : decode cX11_inHat 17 = .ok (.if_icmp .ge 22, 3) := by decide +kernel
theorem dX11_inHat_20 : decode cX11_inHat 20 = .ok (.aload_n 0, 1) := by decide +kernel
theorem dX11_inHat_21 : decode cX11_inHat 21 = .ok (.getfield 169, 3) := by decide +kernel
theorem dX11_inHat_24 : decode cX11_inHat 24 = .ok (.iload_n 3, 1) := by decide +kernel
theorem dX11_inHat_25 : decode cX11_inHat 25 = .ok (.iaload, 1) := by decide +kernel
theorem dX11_inHat_26 : decode cX11_inHat 26 = .ok (.iload_n 1, 1) := by decide +kernel
theorem dX11_inHat_27 : decode cX11_inHat 27 = .ok (.if_icmp .ne 6, 3) := by decide +kernel
theorem dX11_inHat_30 : decode cX11_inHat 30 = .ok (.iinc 2 1, 3) := by decide +kernel
theorem dX11_inHat_33 : decode cX11_inHat 33 = .ok (.iinc 3 1, 3) := by decide +kernel
theorem dX11_inHat_36 : decode cX11_inHat 36 = .ok (.goto (-29), 3) := by decide +kernel
theorem dX11_inHat_39 : decode cX11_inHat 39 = .ok (.iload_n 2, 1) := by decide +kernel
theorem dX11_inHat_40 : decode cX11_inHat 40 = .ok (.ireturn, 1) := by decide +kernel
theorem dX11_sumOf_0 : decode cX11_sumOf 0 = .ok (.iconst 0, 1) := by decide +kernel
theorem dX11_sumOf_1 : decode cX11_sumOf 1 = .ok (.istore_n 2, 1) := by decide +kernel
theorem dX11_sumOf_2 : decode cX11_sumOf 2 = .ok (.aload_n 0, 1) := by decide +kernel
theorem dX11_sumOf_3 : decode cX11_sumOf 3 = .ok (.getfield 364, 3) := by decide +kernel
theorem dX11_sumOf_6 : decode cX11_sumOf 6 = .ok (.istore_n 3, 1) := by decide +kernel
theorem dX11_sumOf_7 : decode cX11_sumOf 7 = .ok (.iload_n 3, 1) := by decide +kernel
theorem dX11_sumOf_8 : decode cX11_sumOf 8 = .ok (.aload_n 0, 1) := by decide +kernel
theorem dX11_sumOf_9 : decode cX11_sumOf 9 = .ok (.getfield 364, 3) := by decide +kernel
theorem dX11_sumOf_12 : decode cX11_sumOf 12 = .ok (.aload_n 0, 1) := by decide +kernel
theorem dX11_sumOf_13 : decode cX11_sumOf 13 = .ok (.getfield 367, 3) := by decide +kernel
theorem dX11_sumOf_16 : decode cX11_sumOf 16 = .ok (.iadd, 1) := by decide +kernel
theorem dX11_sumOf_17 : decode cX11_sumOf 17 = .ok (.if_icmp .ge 27, 3) := by decide +kernel
theorem dX11_sumOf_20 : decode cX11_sumOf 20 = .ok (.aload_n 0, 1) := by decide +kernel
theorem dX11_sumOf_21 : decode cX11_sumOf 21 = .ok (.getfield 169, 3) := by decide +kernel
theorem dX11_sumOf_24 : decode cX11_sumOf 24 = .ok (.iload_n 3, 1) := by decide +kernel
theorem dX11_sumOf_25 : decode cX11_sumOf 25 = .ok (.iaload, 1) := by decide +kernel
theorem dX11_sumOf_26 : decode cX11_sumOf 26 = .ok (.iload_n 1, 1) := by decide +kernel
theorem dX11_sumOf_27 : decode cX11_sumOf 27 = .ok (.if_icmp .ne 11, 3) := by decide +kernel
theorem dX11_sumOf_30 : decode cX11_sumOf 30 = .ok (.iload_n 2, 1) := by decide +kernel
theorem dX11_sumOf_31 : decode cX11_sumOf 31 = .ok (.aload_n 0, 1) := by decide +kernel
theorem dX11_sumOf_32 : decode cX11_sumOf 32 = .ok (.iload_n 3, 1) := by decide +kernel
theorem dX11_sumOf_33 : decode cX11_sumOf 33 = .ok (.invokevirtual 443, 3) := by decide +kernel
theorem dX11_sumOf_36 : decode cX11_sumOf 36 = .ok (.iadd, 1) := by decide +kernel
theorem dX11_sumOf_37 : decode cX11_sumOf 37 = .ok (.istore_n 2, 1) := by decide +kernel
theorem dX11_sumOf_38 : decode cX11_sumOf 38 = .ok (.iinc 3 1, 3) := by decide +kernel
theorem dX11_sumOf_41 : decode cX11_sumOf 41 = .ok (.goto (-34), 3) := by decide +kernel
theorem dX11_sumOf_44 : decode cX11_sumOf 44 = .ok (.iload_n 2, 1) := by decide +kernel
theorem dX11_sumOf_45 : decode cX11_sumOf 45 = .ok (.ireturn, 1) := by decide +kernel
theorem dX11_needsOf_0 : decode cX11_needsOf 0 = .ok (.iconst 0, 1) := by decide +kernel
theorem dX11_needsOf_1 : decode cX11_needsOf 1 = .ok (.istore_n 2, 1) := by decide +kernel
theorem dX11_needsOf_2 : decode cX11_needsOf 2 = .ok (.aload_n 0, 1) := by decide +kernel
theorem dX11_needsOf_3 : decode cX11_needsOf 3 = .ok (.getfield 364, 3) := by decide +kernel
theorem dX11_needsOf_6 : decode cX11_needsOf 6 = .ok (.istore_n 3, 1) := by decide +kernel
theorem dX11_needsOf_7 : decode cX11_needsOf 7 = .ok (.iload_n 3, 1) := by decide +kernel
theorem dX11_needsOf_8 : decode cX11_needsOf 8 = .ok (.aload_n 0, 1) := by decide +kernel
theorem dX11_needsOf_9 : decode cX11_needsOf 9 = .ok (.getfield 364, 3) := by decide +kernel
theorem dX11_needsOf_12 : decode cX11_needsOf 12 = .ok (.aload_n 0, 1) := by decide +kernel
theorem dX11_needsOf_13 : decode cX11_needsOf 13 = .ok (.getfield 367, 3) := by decide +kernel
theorem dX11_needsOf_16 : decode cX11_needsOf 16 = .ok (.iadd, 1) := by decide +kernel
theorem dX11_needsOf_17 : decode cX11_needsOf 17 = .ok (.if_icmp .ge 28, 3) := by decide +kernel
theorem dX11_needsOf_20 : decode cX11_needsOf 20 = .ok (.aload_n 0, 1) := by decide +kernel
theorem dX11_needsOf_21 : decode cX11_needsOf 21 = .ok (.getfield 169, 3) := by decide +kernel
theorem dX11_needsOf_24 : decode cX11_needsOf 24 = .ok (.iload_n 3, 1) := by decide +kernel
theorem dX11_needsOf_25 : decode cX11_needsOf 25 = .ok (.iaload, 1) := by decide +kernel
theorem dX11_needsOf_26 : decode cX11_needsOf 26 = .ok (.iload_n 1, 1) := by decide +kernel
theorem dX11_needsOf_27 : decode cX11_needsOf 27 = .ok (.if_icmp .ne 12, 3) := by decide +kernel
theorem dX11_needsOf_30 : decode cX11_needsOf 30 = .ok (.iload_n 2, 1) := by decide +kernel
theorem dX11_needsOf_31 : decode cX11_needsOf 31 = .ok (.aload_n 0, 1) := by decide +kernel
theorem dX11_needsOf_32 : decode cX11_needsOf 32 = .ok (.iload_n 3, 1) := by decide +kernel
theorem dX11_needsOf_33 : decode cX11_needsOf 33 = .ok (.iconst 4, 1) := by decide +kernel
theorem dX11_needsOf_34 : decode cX11_needsOf 34 = .ok (.invokevirtual 434, 3) := by decide +kernel
theorem dX11_needsOf_37 : decode cX11_needsOf 37 = .ok (.iadd, 1) := by decide +kernel
theorem dX11_needsOf_38 : decode cX11_needsOf 38 = .ok (.istore_n 2, 1) := by decide +kernel
theorem dX11_needsOf_39 : decode cX11_needsOf 39 = .ok (.iinc 3 1, 3) := by decide +kernel
theorem dX11_needsOf_42 : decode cX11_needsOf 42 = .ok (.goto (-35), 3) := by decide +kernel
theorem dX11_needsOf_45 : decode cX11_needsOf 45 = .ok (.iload_n 2, 1) := by decide +kernel
theorem dX11_needsOf_46 : decode cX11_needsOf 46 = .ok (.ireturn, 1) := by decide +kernel
theorem dX11_meanOf_0 : decode cX11_meanOf 0 = .ok (.aload_n 0, 1) := by decide +kernel
theorem dX11_meanOf_1 : decode cX11_meanOf 1 = .ok (.iload_n 1, 1) := by decide +kernel
theorem dX11_meanOf_2 : decode cX11_meanOf 2 = .ok (.invokevirtual 446, 3) := by decide +kernel
theorem dX11_meanOf_5 : decode cX11_meanOf 5 = .ok (.ifCond .ne 7, 3) := by decide +kernel
theorem dX11_meanOf_8 : decode cX11_meanOf 8 = .ok (.iconst 0, 1) := by decide +kernel
theorem dX11_meanOf_9 : decode cX11_meanOf 9 = .ok (.goto 17, 3) := by decide +kernel
theorem dX11_meanOf_12 : decode cX11_meanOf 12 = .ok (.bipush 100, 2) := by decide +kernel
theorem dX11_meanOf_14 : decode cX11_meanOf 14 = .ok (.aload_n 0, 1) := by decide +kernel
theorem dX11_meanOf_15 : decode cX11_meanOf 15 = .ok (.iload_n 1, 1) := by decide +kernel
theorem dX11_meanOf_16 : decode cX11_meanOf 16 = .ok (.invokevirtual 449, 3) := by decide +kernel
theorem dX11_meanOf_19 : decode cX11_meanOf 19 = .ok (.imul, 1) := by decide +kernel
theorem dX11_meanOf_20 : decode cX11_meanOf 20 = .ok (.aload_n 0, 1) := by decide +kernel
theorem dX11_meanOf_21 : decode cX11_meanOf 21 = .ok (.iload_n 1, 1) := by decide +kernel
theorem dX11_meanOf_22 : decode cX11_meanOf 22 = .ok (.invokevirtual 446, 3) := by decide +kernel
theorem dX11_meanOf_25 : decode cX11_meanOf 25 = .ok (.idiv, 1) := by decide +kernel
theorem dX11_meanOf_26 : decode cX11_meanOf 26 = .ok (.ireturn, 1) := by decide +kernel
theorem dX11_spreadOf_0 : decode cX11_spreadOf 0 = .ok (.aload_n 0, 1) := by decide +kernel
theorem dX11_spreadOf_1 : decode cX11_spreadOf 1 = .ok (.iload_n 1, 1) := by decide +kernel
theorem dX11_spreadOf_2 : decode cX11_spreadOf 2 = .ok (.invokevirtual 446, 3) := by decide +kernel
theorem dX11_spreadOf_5 : decode cX11_spreadOf 5 = .ok (.istore_n 2, 1) := by decide +kernel
theorem dX11_spreadOf_6 : decode cX11_spreadOf 6 = .ok (.iload_n 2, 1) := by decide +kernel
theorem dX11_spreadOf_7 : decode cX11_spreadOf 7 = .ok (.ifCond .ne 5, 3) := by decide +kernel
theorem dX11_spreadOf_10 : decode cX11_spreadOf 10 = .ok (.iconst 0, 1) := by decide +kernel
theorem dX11_spreadOf_11 : decode cX11_spreadOf 11 = .ok (.ireturn, 1) := by decide +kernel
theorem dX11_spreadOf_12 : decode cX11_spreadOf 12 = .ok (.aload_n 0, 1) := by decide +kernel
theorem dX11_spreadOf_13 : decode cX11_spreadOf 13 = .ok (.iload_n 1, 1) := by decide +kernel
theorem dX11_spreadOf_14 : decode cX11_spreadOf 14 = .ok (.invokevirtual 449, 3) := by decide +kernel
theorem dX11_spreadOf_17 : decode cX11_spreadOf 17 = .ok (.istore_n 3, 1) := by decide +kernel
theorem dX11_spreadOf_18 : decode cX11_spreadOf 18 = .ok (.iconst 0, 1) := by decide +kernel
theorem dX11_spreadOf_19 : decode cX11_spreadOf 19 = .ok (.istore 4, 2) := by decide +kernel
theorem dX11_spreadOf_21 : decode cX11_spreadOf 21 = .ok (.aload_n 0, 1) := by decide +kernel
theorem dX11_spreadOf_22 : decode cX11_spreadOf 22 = .ok (.getfield 364, 3) := by decide +kernel
theorem dX11_spreadOf_25 : decode cX11_spreadOf 25 = .ok (.istore 5, 2) := by decide +kernel
theorem dX11_spreadOf_27 : decode cX11_spreadOf 27 = .ok (.iload 5, 2) := by decide +kernel
theorem dX11_spreadOf_29 : decode cX11_spreadOf 29 = .ok (.aload_n 0, 1) := by decide +kernel
theorem dX11_spreadOf_30 : decode cX11_spreadOf 30 = .ok (.getfield 364, 3) := by decide +kernel
theorem dX11_spreadOf_33 : decode cX11_spreadOf 33 = .ok (.aload_n 0, 1) := by decide +kernel
theorem dX11_spreadOf_34 : decode cX11_spreadOf 34 = .ok (.getfield 367, 3) := by decide +kernel
theorem dX11_spreadOf_37 : decode cX11_spreadOf 37 = .ok (.iadd, 1) := by decide +kernel
theorem dX11_spreadOf_38 : decode cX11_spreadOf 38 = .ok (.if_icmp .ge 53, 3) := by decide +kernel
theorem dX11_spreadOf_41 : decode cX11_spreadOf 41 = .ok (.aload_n 0, 1) := by decide +kernel
theorem dX11_spreadOf_42 : decode cX11_spreadOf 42 = .ok (.getfield 169, 3) := by decide +kernel
theorem dX11_spreadOf_45 : decode cX11_spreadOf 45 = .ok (.iload 5, 2) := by decide +kernel
theorem dX11_spreadOf_47 : decode cX11_spreadOf 47 = .ok (.iaload, 1) := by decide +kernel
theorem dX11_spreadOf_48 : decode cX11_spreadOf 48 = .ok (.iload_n 1, 1) := by decide +kernel
theorem dX11_spreadOf_49 : decode cX11_spreadOf 49 = .ok (.if_icmp .eq 6, 3) := by decide +kernel
theorem dX11_spreadOf_52 : decode cX11_spreadOf 52 = .ok (.goto 33, 3) := by decide +kernel
theorem dX11_spreadOf_55 : decode cX11_spreadOf 55 = .ok (.iload_n 2, 1) := by decide +kernel
theorem dX11_spreadOf_56 : decode cX11_spreadOf 56 = .ok (.aload_n 0, 1) := by decide +kernel
theorem dX11_spreadOf_57 : decode cX11_spreadOf 57 = .ok (.iload 5, 2) := by decide +kernel
theorem dX11_spreadOf_59 : decode cX11_spreadOf 59 = .ok (.invokevirtual 443, 3) := by decide +kernel
theorem dX11_spreadOf_62 : decode cX11_spreadOf 62 = .ok (.imul, 1) := by decide +kernel
theorem dX11_spreadOf_63 : decode cX11_spreadOf 63 = .ok (.iload_n 3, 1) := by decide +kernel
theorem dX11_spreadOf_64 : decode cX11_spreadOf 64 = .ok (.isub, 1) := by decide +kernel
theorem dX11_spreadOf_65 : decode cX11_spreadOf 65 = .ok (.istore 6, 2) := by decide +kernel
theorem dX11_spreadOf_67 : decode cX11_spreadOf 67 = .ok (.iload 4, 2) := by decide +kernel
theorem dX11_spreadOf_69 : decode cX11_spreadOf 69 = .ok (.iload 6, 2) := by decide +kernel
theorem dX11_spreadOf_71 : decode cX11_spreadOf 71 = .ok (.ifCond .ge 9, 3) := by decide +kernel
theorem dX11_spreadOf_74 : decode cX11_spreadOf 74 = .ok (.iload 6, 2) := by decide +kernel
theorem dX11_spreadOf_76 : decode cX11_spreadOf 76 = .ok (.ineg, 1) := by decide +kernel
theorem dX11_spreadOf_77 : decode cX11_spreadOf 77 = .ok (.goto 5, 3) := by decide +kernel
theorem dX11_spreadOf_80 : decode cX11_spreadOf 80 = .ok (.iload 6, 2) := by decide +kernel
theorem dX11_spreadOf_82 : decode cX11_spreadOf 82 = .ok (.iadd, 1) := by decide +kernel
theorem dX11_spreadOf_83 : decode cX11_spreadOf 83 = .ok (.istore 4, 2) := by decide +kernel
theorem dX11_spreadOf_85 : decode cX11_spreadOf 85 = .ok (.iinc 5 1, 3) := by decide +kernel
theorem dX11_spreadOf_88 : decode cX11_spreadOf 88 = .ok (.goto (-61), 3) := by decide +kernel
theorem dX11_spreadOf_91 : decode cX11_spreadOf 91 = .ok (.ldc2_w 452, 3) := by decide +kernel
theorem dX11_spreadOf_94 : decode cX11_spreadOf 94 = .ok (.iload 4, 2) := by decide +kernel
theorem dX11_spreadOf_96 : decode cX11_spreadOf 96 = .ok (.i2l, 1) := by decide +kernel
theorem dX11_spreadOf_97 : decode cX11_spreadOf 97 = .ok (.lmul, 1) := by decide +kernel
theorem dX11_spreadOf_98 : decode cX11_spreadOf 98 = .ok (.iload_n 2, 1) := by decide +kernel
theorem dX11_spreadOf_99 : decode cX11_spreadOf 99 = .ok (.iload_n 2, 1) := by decide +kernel
theorem dX11_spreadOf_100 : decode cX11_spreadOf 100 = .ok (.imul, 1) := by decide +kernel
theorem dX11_spreadOf_101 : decode cX11_spreadOf 101 = .ok (.i2l, 1) := by decide +kernel
theorem dX11_spreadOf_102 : decode cX11_spreadOf 102 = .ok (.ldiv, 1) := by decide +kernel
theorem dX11_spreadOf_103 : decode cX11_spreadOf 103 = .ok (.l2i, 1) := by decide +kernel
theorem dX11_spreadOf_104 : decode cX11_spreadOf 104 = .ok (.ireturn, 1) := by decide +kernel
theorem dX11_mostOther_0 : decode cX11_mostOther 0 = .ok (.iconst 0, 1) := by decide +kernel
theorem dX11_mostOther_1 : decode cX11_mostOther 1 = .ok (.istore_n 2, 1) := by decide +kernel
theorem dX11_mostOther_2 : decode cX11_mostOther 2 = .ok (.aload_n 0, 1) := by decide +kernel
theorem dX11_mostOther_3 : decode cX11_mostOther 3 = .ok (.getfield 364, 3) := by decide +kernel
theorem dX11_mostOther_6 : decode cX11_mostOther 6 = .ok (.istore_n 3, 1) := by decide +kernel
theorem dX11_mostOther_7 : decode cX11_mostOther 7 = .ok (.iload_n 3, 1) := by decide +kernel
theorem dX11_mostOther_8 : decode cX11_mostOther 8 = .ok (.aload_n 0, 1) := by decide +kernel
theorem dX11_mostOther_9 : decode cX11_mostOther 9 = .ok (.getfield 364, 3) := by decide +kernel
theorem dX11_mostOther_12 : decode cX11_mostOther 12 = .ok (.aload_n 0, 1) := by decide +kernel
theorem dX11_mostOther_13 : decode cX11_mostOther 13 = .ok (.getfield 367, 3) := by decide +kernel
theorem dX11_mostOther_16 : decode cX11_mostOther 16 = .ok (.iadd, 1) := by decide +kernel
theorem dX11_mostOther_17 : decode cX11_mostOther 17 = .ok (.if_icmp .ge 56, 3) := by decide +kernel
theorem dX11_mostOther_20 : decode cX11_mostOther 20 = .ok (.iload_n 3, 1) := by decide +kernel
theorem dX11_mostOther_21 : decode cX11_mostOther 21 = .ok (.iload_n 1, 1) := by decide +kernel
theorem dX11_mostOther_22 : decode cX11_mostOther 22 = .ok (.if_icmp .eq 45, 3) := by decide +kernel
theorem dX11_mostOther_25 : decode cX11_mostOther 25 = .ok (.aload_n 0, 1) := by decide +kernel
theorem dX11_mostOther_26 : decode cX11_mostOther 26 = .ok (.getfield 169, 3) := by decide +kernel
theorem dX11_mostOther_29 : decode cX11_mostOther 29 = .ok (.iload_n 1, 1) := by decide +kernel
theorem dX11_mostOther_30 : decode cX11_mostOther 30 = .ok (.iaload, 1) := by decide +kernel
theorem dX11_mostOther_31 : decode cX11_mostOther 31 = .ok (.iconst (-1), 1) := by decide +kernel
theorem dX11_mostOther_32 : decode cX11_mostOther 32 = .ok (.if_icmp .eq 35, 3) := by decide +kernel
theorem dX11_mostOther_35 : decode cX11_mostOther 35 = .ok (.aload_n 0, 1) := by decide +kernel
theorem dX11_mostOther_36 : decode cX11_mostOther 36 = .ok (.getfield 169, 3) := by decide +kernel
theorem dX11_mostOther_39 : decode cX11_mostOther 39 = .ok (.iload_n 3, 1) := by decide +kernel
theorem dX11_mostOther_40 : decode cX11_mostOther 40 = .ok (.iaload, 1) := by decide +kernel
theorem dX11_mostOther_41 : decode cX11_mostOther 41 = .ok (.aload_n 0, 1) := by decide +kernel
theorem dX11_mostOther_42 : decode cX11_mostOther 42 = .ok (.getfield 169, 3) := by decide +kernel
theorem dX11_mostOther_45 : decode cX11_mostOther 45 = .ok (.iload_n 1, 1) := by decide +kernel
theorem dX11_mostOther_46 : decode cX11_mostOther 46 = .ok (.iaload, 1) := by decide +kernel
theorem dX11_mostOther_47 : decode cX11_mostOther 47 = .ok (.if_icmp .ne 20, 3) := by decide +kernel
theorem dX11_mostOther_50 : decode cX11_mostOther 50 = .ok (.aload_n 0, 1) := by decide +kernel
theorem dX11_mostOther_51 : decode cX11_mostOther 51 = .ok (.getfield 175, 3) := by decide +kernel
theorem dX11_mostOther_54 : decode cX11_mostOther 54 = .ok (.iload_n 3, 1) := by decide +kernel
theorem dX11_mostOther_55 : decode cX11_mostOther 55 = .ok (.iaload, 1) := by decide +kernel
theorem dX11_mostOther_56 : decode cX11_mostOther 56 = .ok (.iload_n 2, 1) := by decide +kernel
theorem dX11_mostOther_57 : decode cX11_mostOther 57 = .ok (.if_icmp .le 10, 3) := by decide +kernel
theorem dX11_mostOther_60 : decode cX11_mostOther 60 = .ok (.aload_n 0, 1) := by decide +kernel
theorem dX11_mostOther_61 : decode cX11_mostOther 61 = .ok (.getfield 175, 3) := by decide +kernel
theorem dX11_mostOther_64 : decode cX11_mostOther 64 = .ok (.iload_n 3, 1) := by decide +kernel
theorem dX11_mostOther_65 : decode cX11_mostOther 65 = .ok (.iaload, 1) := by decide +kernel
theorem dX11_mostOther_66 : decode cX11_mostOther 66 = .ok (.istore_n 2, 1) := by decide +kernel
theorem dX11_mostOther_67 : decode cX11_mostOther 67 = .ok (.iinc 3 1, 3) := by decide +kernel
theorem dX11_mostOther_70 : decode cX11_mostOther 70 = .ok (.goto (-63), 3) := by decide +kernel
theorem dX11_mostOther_73 : decode cX11_mostOther 73 = .ok (.iload_n 2, 1) := by decide +kernel
theorem dX11_mostOther_74 : decode cX11_mostOther 74 = .ok (.ireturn, 1) := by decide +kernel
theorem dX11_floorOf_0 : decode cX11_floorOf 0 = .ok (.iload_n 0, 1) := by decide +kernel
theorem dX11_floorOf_1 : decode cX11_floorOf 1 = .ok (.iload_n 1, 1) := by decide +kernel
theorem dX11_floorOf_2 : decode cX11_floorOf 2 = .ok (.idiv, 1) := by decide +kernel
theorem dX11_floorOf_3 : decode cX11_floorOf 3 = .ok (.istore_n 2, 1) := by decide +kernel
theorem dX11_floorOf_4 : decode cX11_floorOf 4 = .ok (.iload_n 0, 1) := by decide +kernel
theorem dX11_floorOf_5 : decode cX11_floorOf 5 = .ok (.iload_n 1, 1) := by decide +kernel
theorem dX11_floorOf_6 : decode cX11_floorOf 6 = .ok (.irem, 1) := by decide +kernel
theorem dX11_floorOf_7 : decode cX11_floorOf 7 = .ok (.ifCond .eq 13, 3) := by decide +kernel
theorem dX11_floorOf_10 : decode cX11_floorOf 10 = .ok (.iload_n 0, 1) := by decide +kernel
theorem dX11_floorOf_11 : decode cX11_floorOf 11 = .ok (.ifCond .ge 9, 3) := by decide +kernel
theorem dX11_floorOf_14 : decode cX11_floorOf 14 = .ok (.iload_n 2, 1) := by decide +kernel
theorem dX11_floorOf_15 : decode cX11_floorOf 15 = .ok (.iconst 1, 1) := by decide +kernel
theorem dX11_floorOf_16 : decode cX11_floorOf 16 = .ok (.isub, 1) := by decide +kernel
theorem dX11_floorOf_17 : decode cX11_floorOf 17 = .ok (.goto 4, 3) := by decide +kernel
theorem dX11_floorOf_20 : decode cX11_floorOf 20 = .ok (.iload_n 2, 1) := by decide +kernel
theorem dX11_floorOf_21 : decode cX11_floorOf 21 = .ok (.ireturn, 1) := by decide +kernel
theorem dX11_comes_0 : decode cX11_comes 0 = .ok (.aload_n 0, 1) := by decide +kernel
theorem dX11_comes_1 : decode cX11_comes 1 = .ok (.getfield 169, 3) := by decide +kernel
theorem dX11_comes_4 : decode cX11_comes 4 = .ok (.iload_n 1, 1) := by decide +kernel
theorem dX11_comes_5 : decode cX11_comes 5 = .ok (.iaload, 1) := by decide +kernel
theorem dX11_comes_6 : decode cX11_comes 6 = .ok (.istore_n 2, 1) := by decide +kernel
theorem dX11_comes_7 : decode cX11_comes 7 = .ok (.aload_n 0, 1) := by decide +kernel
theorem dX11_comes_8 : decode cX11_comes 8 = .ok (.iload_n 2, 1) := by decide +kernel
theorem dX11_comes_9 : decode cX11_comes 9 = .ok (.iconst 3, 1) := by decide +kernel
theorem dX11_comes_10 : decode cX11_comes 10 = .ok (.invokevirtual 440, 3) := by decide +kernel
theorem dX11_comes_13 : decode cX11_comes 13 = .ok (.istore_n 3, 1) := by decide +kernel
theorem dX11_comes_14 : decode cX11_comes 14 = .ok (.aload_n 0, 1) := by decide +kernel
theorem dX11_comes_15 : decode cX11_comes 15 = .ok (.iload_n 2, 1) := by decide +kernel
theorem dX11_comes_16 : decode cX11_comes 16 = .ok (.invokevirtual 454, 3) := by decide +kernel
theorem dX11_comes_19 : decode cX11_comes 19 = .ok (.istore 4, 2) := by decide +kernel
theorem dX11_comes_21 : decode cX11_comes 21 = .ok (.iload_n 3, 1) := by decide +kernel
theorem dX11_comes_22 : decode cX11_comes 22 = .ok (.ifCond .eq 8, 3) := by decide +kernel
theorem dX11_comes_25 : decode cX11_comes 25 = .ok (.iload_n 3, 1) := by decide +kernel
theorem dX11_comes_26 : decode cX11_comes 26 = .ok (.iconst 1, 1) := by decide +kernel
theorem dX11_comes_27 : decode cX11_comes 27 = .ok (.if_icmp .ne 58, 3) := by decide +kernel
theorem dX11_comes_30 : decode cX11_comes 30 = .ok (.aload_n 0, 1) := by decide +kernel
theorem dX11_comes_31 : decode cX11_comes 31 = .ok (.iload_n 2, 1) := by decide +kernel
theorem dX11_comes_32 : decode cX11_comes 32 = .ok (.invokevirtual 457, 3) := by decide +kernel
theorem dX11_comes_35 : decode cX11_comes 35 = .ok (.istore 5, 2) := by decide +kernel
theorem dX11_comes_37 : decode cX11_comes 37 = .ok (.aload_n 0, 1) := by decide +kernel
theorem dX11_comes_38 : decode cX11_comes 38 = .ok (.getfield 172, 3) := by decide +kernel
theorem dX11_comes_41 : decode cX11_comes 41 = .ok (.iload_n 1, 1) := by decide +kernel
theorem dX11_comes_42 : decode cX11_comes 42 = .ok (.iaload, 1) := by decide +kernel
theorem dX11_comes_43 : decode cX11_comes 43 = .ok (.iconst (-1), 1) := by decide +kernel
theorem dX11_comes_44 : decode cX11_comes 44 = .ok (.if_icmp .eq 24, 3) := by decide +kernel
theorem dX11_comes_47 : decode cX11_comes 47 = .ok (.aload_n 0, 1) := by decide +kernel
theorem dX11_comes_48 : decode cX11_comes 48 = .ok (.getfield 169, 3) := by decide +kernel
theorem dX11_comes_51 : decode cX11_comes 51 = .ok (.aload_n 0, 1) := by decide +kernel
theorem dX11_comes_52 : decode cX11_comes 52 = .ok (.getfield 172, 3) := by decide +kernel
theorem dX11_comes_55 : decode cX11_comes 55 = .ok (.iload_n 1, 1) := by decide +kernel
theorem dX11_comes_56 : decode cX11_comes 56 = .ok (.iaload, 1) := by decide +kernel
theorem dX11_comes_57 : decode cX11_comes 57 = .ok (.iaload, 1) := by decide +kernel
theorem dX11_comes_58 : decode cX11_comes 58 = .ok (.iload_n 2, 1) := by decide +kernel
theorem dX11_comes_59 : decode cX11_comes 59 = .ok (.if_icmp .ne 9, 3) := by decide +kernel
theorem dX11_comes_62 : decode cX11_comes 62 = .ok (.iload 5, 2) := by decide +kernel
theorem dX11_comes_64 : decode cX11_comes 64 = .ok (.iconst 2, 1) := by decide +kernel
theorem dX11_comes_65 : decode cX11_comes 65 = .ok (.idiv, 1) := by decide +kernel
theorem dX11_comes_66 : decode cX11_comes 66 = .ok (.istore 5, 2) := by decide +kernel
theorem dX11_comes_68 : decode cX11_comes 68 = .ok (.iload 4, 2) := by decide +kernel
theorem dX11_comes_70 : decode cX11_comes 70 = .ok (.aload_n 0, 1) := by decide +kernel
theorem dX11_comes_71 : decode cX11_comes 71 = .ok (.iload_n 1, 1) := by decide +kernel
theorem dX11_comes_72 : decode cX11_comes 72 = .ok (.iconst 2, 1) := by decide +kernel
theorem dX11_comes_73 : decode cX11_comes 73 = .ok (.invokevirtual 434, 3) := by decide +kernel
theorem dX11_comes_76 : decode cX11_comes 76 = .ok (.iload 5, 2) := by decide +kernel
theorem dX11_comes_78 : decode cX11_comes 78 = .ok (.imul, 1) := by decide +kernel
theorem dX11_comes_79 : decode cX11_comes 79 = .ok (.bipush 100, 2) := by decide +kernel
theorem dX11_comes_81 : decode cX11_comes 81 = .ok (.idiv, 1) := by decide +kernel
theorem dX11_comes_82 : decode cX11_comes 82 = .ok (.isub, 1) := by decide +kernel
theorem dX11_comes_83 : decode cX11_comes 83 = .ok (.istore 4, 2) := by decide +kernel
theorem dX11_comes_85 : decode cX11_comes 85 = .ok (.iload_n 3, 1) := by decide +kernel
theorem dX11_comes_86 : decode cX11_comes 86 = .ok (.iconst 3, 1) := by decide +kernel
theorem dX11_comes_87 : decode cX11_comes 87 = .ok (.if_icmp .ne 31, 3) := by decide +kernel
theorem dX11_comes_90 : decode cX11_comes 90 = .ok (.ldc2_w 452, 3) := by decide +kernel
theorem dX11_comes_93 : decode cX11_comes 93 = .ok (.aload_n 0, 1) := by decide +kernel
theorem dX11_comes_94 : decode cX11_comes 94 = .ok (.iload_n 2, 1) := by decide +kernel
theorem dX11_comes_95 : decode cX11_comes 95 = .ok (.invokevirtual 449, 3) := by decide +kernel
theorem dX11_comes_98 : decode cX11_comes 98 = .ok (.i2l, 1) := by decide +kernel
theorem dX11_comes_99 : decode cX11_comes 99 = .ok (.lmul, 1) := by decide +kernel
theorem dX11_comes_100 : decode cX11_comes 100 = .ok (.aload_n 0, 1) := by decide +kernel
theorem dX11_comes_101 : decode cX11_comes 101 = .ok (.iload_n 1, 1) := by decide +kernel
theorem dX11_comes_102 : decode cX11_comes 102 = .ok (.iconst 4, 1) := by decide +kernel
theorem dX11_comes_103 : decode cX11_comes 103 = .ok (.invokevirtual 434, 3) := by decide +kernel
theorem dX11_comes_106 : decode cX11_comes 106 = .ok (.i2l, 1) := by decide +kernel
theorem dX11_comes_107 : decode cX11_comes 107 = .ok (.lmul, 1) := by decide +kernel
theorem dX11_comes_108 : decode cX11_comes 108 = .ok (.aload_n 0, 1) := by decide +kernel
theorem dX11_comes_109 : decode cX11_comes 109 = .ok (.iload_n 2, 1) := by decide +kernel
theorem dX11_comes_110 : decode cX11_comes 110 = .ok (.invokevirtual 460, 3) := by decide +kernel
theorem dX11_comes_113 : decode cX11_comes 113 = .ok (.i2l, 1) := by decide +kernel
theorem dX11_comes_114 : decode cX11_comes 114 = .ok (.ldiv, 1) := by decide +kernel
theorem dX11_comes_115 : decode cX11_comes 115 = .ok (.l2i, 1) := by decide +kernel
theorem dX11_comes_116 : decode cX11_comes 116 = .ok (.istore 4, 2) := by decide +kernel
theorem dX11_comes_118 : decode cX11_comes 118 = .ok (.aload_n 0, 1) := by decide +kernel
theorem dX11_comes_119 : decode cX11_comes 119 = .ok (.getfield 175, 3) := by decide +kernel
theorem dX11_comes_122 : decode cX11_comes 122 = .ok (.iload_n 1, 1) := by decide +kernel
theorem dX11_comes_123 : decode cX11_comes 123 = .ok (.iaload, 1) := by decide +kernel
theorem dX11_comes_124 : decode cX11_comes 124 = .ok (.aload_n 0, 1) := by decide +kernel
theorem dX11_comes_125 : decode cX11_comes 125 = .ok (.iload_n 2, 1) := by decide +kernel
theorem dX11_comes_126 : decode cX11_comes 126 = .ok (.iconst 1, 1) := by decide +kernel
theorem dX11_comes_127 : decode cX11_comes 127 = .ok (.invokevirtual 440, 3) := by decide +kernel
theorem dX11_comes_130 : decode cX11_comes 130 = .ok (.if_icmp .ge 23, 3) := by decide +kernel
theorem dX11_comes_133 : decode cX11_comes 133 = .ok (.iload 4, 2) := by decide +kernel
theorem dX11_comes_135 : decode cX11_comes 135 = .ok (.bipush 100, 2) := by decide +kernel
theorem dX11_comes_137 : decode cX11_comes 137 = .ok (.aload_n 0, 1) := by decide +kernel
theorem dX11_comes_138 : decode cX11_comes 138 = .ok (.iload_n 2, 1) := by decide +kernel
theorem dX11_comes_139 : decode cX11_comes 139 = .ok (.iconst 2, 1) := by decide +kernel
theorem dX11_comes_140 : decode cX11_comes 140 = .ok (.invokevirtual 440, 3) := by decide +kernel
theorem dX11_comes_143 : decode cX11_comes 143 = .ok (.isub, 1) := by decide +kernel
theorem dX11_comes_144 : decode cX11_comes 144 = .ok (.imul, 1) := by decide +kernel
theorem dX11_comes_145 : decode cX11_comes 145 = .ok (.bipush 100, 2) := by decide +kernel
theorem dX11_comes_147 : decode cX11_comes 147 = .ok (.invokestatic 463, 3) := by decide +kernel
theorem dX11_comes_150 : decode cX11_comes 150 = .ok (.goto 5, 3) := by decide +kernel
theorem dX11_comes_153 : decode cX11_comes 153 = .ok (.iload 4, 2) := by decide +kernel
theorem dX11_comes_155 : decode cX11_comes 155 = .ok (.ireturn, 1) := by decide +kernel
theorem dX11_worthNow_0 : decode cX11_worthNow 0 = .ok (.bipush 100, 2) := by decide +kernel
theorem dX11_worthNow_2 : decode cX11_worthNow 2 = .ok (.aload_n 0, 1) := by decide +kernel
theorem dX11_worthNow_3 : decode cX11_worthNow 3 = .ok (.iload_n 1, 1) := by decide +kernel
theorem dX11_worthNow_4 : decode cX11_worthNow 4 = .ok (.invokevirtual 466, 3) := by decide +kernel
theorem dX11_worthNow_7 : decode cX11_worthNow 7 = .ok (.imul, 1) := by decide +kernel
theorem dX11_worthNow_8 : decode cX11_worthNow 8 = .ok (.aload_n 0, 1) := by decide +kernel
theorem dX11_worthNow_9 : decode cX11_worthNow 9 = .ok (.iload_n 1, 1) := by decide +kernel
theorem dX11_worthNow_10 : decode cX11_worthNow 10 = .ok (.iconst 1, 1) := by decide +kernel
theorem dX11_worthNow_11 : decode cX11_worthNow 11 = .ok (.invokevirtual 434, 3) := by decide +kernel
theorem dX11_worthNow_14 : decode cX11_worthNow 14 = .ok (.aload_n 0, 1) := by decide +kernel
theorem dX11_worthNow_15 : decode cX11_worthNow 15 = .ok (.getfield 175, 3) := by decide +kernel
theorem dX11_worthNow_18 : decode cX11_worthNow 18 = .ok (.iload_n 1, 1) := by decide +kernel
theorem dX11_worthNow_19 : decode cX11_worthNow 19 = .ok (.iaload, 1) := by decide +kernel
theorem dX11_worthNow_20 : decode cX11_worthNow 20 = .ok (.imul, 1) := by decide +kernel
theorem dX11_worthNow_21 : decode cX11_worthNow 21 = .ok (.aload_n 0, 1) := by decide +kernel
theorem dX11_worthNow_22 : decode cX11_worthNow 22 = .ok (.getfield 175, 3) := by decide +kernel
theorem dX11_worthNow_25 : decode cX11_worthNow 25 = .ok (.iload_n 1, 1) := by decide +kernel
theorem dX11_worthNow_26 : decode cX11_worthNow 26 = .ok (.iaload, 1) := by decide +kernel
theorem dX11_worthNow_27 : decode cX11_worthNow 27 = .ok (.imul, 1) := by decide +kernel
theorem dX11_worthNow_28 : decode cX11_worthNow 28 = .ok (.isub, 1) := by decide +kernel
theorem dX11_worthNow_29 : decode cX11_worthNow 29 = .ok (.istore_n 2, 1) := by decide +kernel
theorem dX11_worthNow_30 : decode cX11_worthNow 30 = .ok (.aload_n 0, 1) := by decide +kernel
theorem dX11_worthNow_31 : decode cX11_worthNow 31 = .ok (.getfield 169, 3) := by decide +kernel
theorem dX11_worthNow_34 : decode cX11_worthNow 34 = .ok (.iload_n 1, 1) := by decide +kernel
theorem dX11_worthNow_35 : decode cX11_worthNow 35 = .ok (.iaload, 1) := by decide +kernel
theorem dX11_worthNow_36 : decode cX11_worthNow 36 = .ok (.iconst (-1), 1) := by decide +kernel
theorem dX11_worthNow_37 : decode cX11_worthNow 37 = .ok (.if_icmp .ne 5, 3) := by decide +kernel
theorem dX11_worthNow_40 : decode cX11_worthNow 40 = .ok (.iload_n 2, 1) := by decide +kernel
theorem dX11_worthNow_41 : decode cX11_worthNow 41 = .ok (.ireturn, 1) := by decide +kernel
theorem dX11_worthNow_42 : decode cX11_worthNow 42 = .ok (.aload_n 0, 1) := by decide +kernel
theorem dX11_worthNow_43 : decode cX11_worthNow 43 = .ok (.iload_n 1, 1) := by decide +kernel
theorem dX11_worthNow_44 : decode cX11_worthNow 44 = .ok (.invokevirtual 469, 3) := by decide +kernel
theorem dX11_worthNow_47 : decode cX11_worthNow 47 = .ok (.aload_n 0, 1) := by decide +kernel
theorem dX11_worthNow_48 : decode cX11_worthNow 48 = .ok (.getfield 175, 3) := by decide +kernel
theorem dX11_worthNow_51 : decode cX11_worthNow 51 = .ok (.iload_n 1, 1) := by decide +kernel
theorem dX11_worthNow_52 : decode cX11_worthNow 52 = .ok (.iaload, 1) := by decide +kernel
theorem dX11_worthNow_53 : decode cX11_worthNow 53 = .ok (.isub, 1) := by decide +kernel
theorem dX11_worthNow_54 : decode cX11_worthNow 54 = .ok (.istore_n 3, 1) := by decide +kernel
theorem dX11_worthNow_55 : decode cX11_worthNow 55 = .ok (.iload_n 2, 1) := by decide +kernel
theorem dX11_worthNow_56 : decode cX11_worthNow 56 = .ok (.aload_n 0, 1) := by decide +kernel
theorem dX11_worthNow_57 : decode cX11_worthNow 57 = .ok (.iload_n 1, 1) := by decide +kernel
theorem dX11_worthNow_58 : decode cX11_worthNow 58 = .ok (.invokevirtual 472, 3) := by decide +kernel
theorem dX11_worthNow_61 : decode cX11_worthNow 61 = .ok (.iadd, 1) := by decide +kernel
theorem dX11_worthNow_62 : decode cX11_worthNow 62 = .ok (.iload_n 3, 1) := by decide +kernel
theorem dX11_worthNow_63 : decode cX11_worthNow 63 = .ok (.ifCond .le 14, 3) := by decide +kernel
theorem dX11_worthNow_66 : decode cX11_worthNow 66 = .ok (.aload_n 0, 1) := by decide +kernel
theorem dX11_worthNow_67 : decode cX11_worthNow 67 = .ok (.iload_n 1, 1) := by decide +kernel
theorem dX11_worthNow_68 : decode cX11_worthNow 68 = .ok (.iconst 3, 1) := by decide +kernel
theorem dX11_worthNow_69 : decode cX11_worthNow 69 = .ok (.invokevirtual 434, 3) := by decide +kernel
theorem dX11_worthNow_72 : decode cX11_worthNow 72 = .ok (.iload_n 3, 1) := by decide +kernel
theorem dX11_worthNow_73 : decode cX11_worthNow 73 = .ok (.imul, 1) := by decide +kernel
theorem dX11_worthNow_74 : decode cX11_worthNow 74 = .ok (.goto 4, 3) := by decide +kernel
theorem dX11_worthNow_77 : decode cX11_worthNow 77 = .ok (.iconst 0, 1) := by decide +kernel
theorem dX11_worthNow_78 : decode cX11_worthNow 78 = .ok (.isub, 1) := by decide +kernel
theorem dX11_worthNow_79 : decode cX11_worthNow 79 = .ok (.ireturn, 1) := by decide +kernel
theorem dX11_worthWith_0 : decode cX11_worthWith 0 = .ok (.aload_n 0, 1) := by decide +kernel
theorem dX11_worthWith_1 : decode cX11_worthWith 1 = .ok (.getfield 175, 3) := by decide +kernel
theorem dX11_worthWith_4 : decode cX11_worthWith 4 = .ok (.iload_n 1, 1) := by decide +kernel
theorem dX11_worthWith_5 : decode cX11_worthWith 5 = .ok (.iaload, 1) := by decide +kernel
theorem dX11_worthWith_6 : decode cX11_worthWith 6 = .ok (.istore_n 3, 1) := by decide +kernel
theorem dX11_worthWith_7 : decode cX11_worthWith 7 = .ok (.aload_n 0, 1) := by decide +kernel
theorem dX11_worthWith_8 : decode cX11_worthWith 8 = .ok (.getfield 175, 3) := by decide +kernel
theorem dX11_worthWith_11 : decode cX11_worthWith 11 = .ok (.iload_n 1, 1) := by decide +kernel
theorem dX11_worthWith_12 : decode cX11_worthWith 12 = .ok (.iload_n 2, 1) := by decide +kernel
theorem dX11_worthWith_13 : decode cX11_worthWith 13 = .ok (.iastore, 1) := by decide +kernel
theorem dX11_worthWith_14 : decode cX11_worthWith 14 = .ok (.aload_n 0, 1) := by decide +kernel
theorem dX11_worthWith_15 : decode cX11_worthWith 15 = .ok (.iload_n 1, 1) := by decide +kernel
theorem dX11_worthWith_16 : decode cX11_worthWith 16 = .ok (.invokevirtual 475, 3) := by decide +kernel
theorem dX11_worthWith_19 : decode cX11_worthWith 19 = .ok (.istore 4, 2) := by decide +kernel
theorem dX11_worthWith_21 : decode cX11_worthWith 21 = .ok (.aload_n 0, 1) := by decide +kernel
theorem dX11_worthWith_22 : decode cX11_worthWith 22 = .ok (.getfield 175, 3) := by decide +kernel
theorem dX11_worthWith_25 : decode cX11_worthWith 25 = .ok (.iload_n 1, 1) := by decide +kernel
theorem dX11_worthWith_26 : decode cX11_worthWith 26 = .ok (.iload_n 3, 1) := by decide +kernel
theorem dX11_worthWith_27 : decode cX11_worthWith 27 = .ok (.iastore, 1) := by decide +kernel
theorem dX11_worthWith_28 : decode cX11_worthWith 28 = .ok (.iload 4, 2) := by decide +kernel
theorem dX11_worthWith_30 : decode cX11_worthWith 30 = .ok (.ireturn, 1) := by decide +kernel
theorem dX11_bestHours_0 : decode cX11_bestHours 0 = .ok (.iconst 0, 1) := by decide +kernel
theorem dX11_bestHours_1 : decode cX11_bestHours 1 = .ok (.istore_n 2, 1) := by decide +kernel
theorem dX11_bestHours_2 : decode cX11_bestHours 2 = .ok (.iconst 0, 1) := by decide +kernel
theorem dX11_bestHours_3 : decode cX11_bestHours 3 = .ok (.istore_n 3, 1) := by decide +kernel
theorem dX11_bestHours_4 : decode cX11_bestHours 4 = .ok (.iconst 0, 1) := by decide +kernel
theorem dX11_bestHours_5 : decode cX11_bestHours 5 = .ok (.istore 4, 2) := by decide +kernel
theorem dX11_bestHours_7 : decode cX11_bestHours 7 = .ok (.iload 4, 2) := by decide +kernel
theorem dX11_bestHours_9 : decode cX11_bestHours 9 = .ok (.aload_n 0, 1) := by decide +kernel
theorem dX11_bestHours_10 : decode cX11_bestHours 10 = .ok (.getfield 142, 3) := by decide +kernel
theorem dX11_bestHours_13 : decode cX11_bestHours 13 = .ok (.if_icmp .gt 38, 3) := by decide +kernel
theorem dX11_bestHours_16 : decode cX11_bestHours 16 = .ok (.aload_n 0, 1) := by decide +kernel
theorem dX11_bestHours_17 : decode cX11_bestHours 17 = .ok (.iload_n 1, 1) := by decide +kernel
theorem dX11_bestHours_18 : decode cX11_bestHours 18 = .ok (.iload 4, 2) := by decide +kernel
theorem dX11_bestHours_20 : decode cX11_bestHours 20 = .ok (.invokevirtual 478, 3) := by decide +kernel
theorem dX11_bestHours_23 : decode cX11_bestHours 23 = .ok (.istore 5, 2) := by decide +kernel
theorem dX11_bestHours_25 : decode cX11_bestHours 25 = .ok (.iload 4, 2) := by decide +kernel
theorem dX11_bestHours_27 : decode cX11_bestHours 27 = .ok (.ifCond .le 12, 3) := by decide +kernel
theorem dX11_bestHours_30 : decode cX11_bestHours 30 = .ok (.iload 5, 2) := by decide +kernel
theorem dX11_bestHours_32 : decode cX11_bestHours 32 = .ok (.iload_n 3, 1) := by decide +kernel
theorem dX11_bestHours_33 : decode cX11_bestHours 33 = .ok (.if_icmp .gt 6, 3) := by decide +kernel
theorem dX11_bestHours_36 : decode cX11_bestHours 36 = .ok (.goto 9, 3) := by decide +kernel
theorem dX11_bestHours_39 : decode cX11_bestHours 39 = .ok (.iload 4, 2) := by decide +kernel
theorem dX11_bestHours_41 : decode cX11_bestHours 41 = .ok (.istore_n 2, 1) := by decide +kernel
theorem dX11_bestHours_42 : decode cX11_bestHours 42 = .ok (.iload 5, 2) := by decide +kernel
theorem dX11_bestHours_44 : decode cX11_bestHours 44 = .ok (.istore_n 3, 1) := by decide +kernel
theorem dX11_bestHours_45 : decode cX11_bestHours 45 = .ok (.iinc 4 1, 3) := by decide +kernel
theorem dX11_bestHours_48 : decode cX11_bestHours 48 = .ok (.goto (-41), 3) := by decide +kernel
theorem dX11_bestHours_51 : decode cX11_bestHours 51 = .ok (.iload_n 2, 1) := by decide +kernel
theorem dX11_bestHours_52 : decode cX11_bestHours 52 = .ok (.ireturn, 1) := by decide +kernel
theorem dX11_person_0 : decode cX11_person 0 = .ok (.aload_n 0, 1) := by decide +kernel
theorem dX11_person_1 : decode cX11_person 1 = .ok (.iload_n 1, 1) := by decide +kernel
theorem dX11_person_2 : decode cX11_person 2 = .ok (.invokevirtual 481, 3) := by decide +kernel
theorem dX11_person_5 : decode cX11_person 5 = .ok (.ifCond .ne 5, 3) := by decide +kernel
theorem dX11_person_8 : decode cX11_person 8 = .ok (.iconst (-1), 1) := by decide +kernel
theorem dX11_person_9 : decode cX11_person 9 = .ok (.ireturn, 1) := by decide +kernel
theorem dX11_person_10 : decode cX11_person 10 = .ok (.iload_n 2, 1) := by decide +kernel
theorem dX11_person_11 : decode cX11_person 11 = .ok (.tableswitch 119 0 9 #[53, 60, 67, 74, 81, 87, 93, 99, 106, 113], 53) := by decide +kernel
theorem dX11_person_64 : decode cX11_person 64 = .ok (.aload_n 0, 1) := by decide +kernel
theorem dX11_person_65 : decode cX11_person 65 = .ok (.getfield 166, 3) := by decide +kernel
theorem dX11_person_68 : decode cX11_person 68 = .ok (.iload_n 1, 1) := by decide +kernel
theorem dX11_person_69 : decode cX11_person 69 = .ok (.iaload, 1) := by decide +kernel
theorem dX11_person_70 : decode cX11_person 70 = .ok (.ireturn, 1) := by decide +kernel
theorem dX11_person_71 : decode cX11_person 71 = .ok (.aload_n 0, 1) := by decide +kernel
theorem dX11_person_72 : decode cX11_person 72 = .ok (.getfield 169, 3) := by decide +kernel
theorem dX11_person_75 : decode cX11_person 75 = .ok (.iload_n 1, 1) := by decide +kernel
theorem dX11_person_76 : decode cX11_person 76 = .ok (.iaload, 1) := by decide +kernel
theorem dX11_person_77 : decode cX11_person 77 = .ok (.ireturn, 1) := by decide +kernel
theorem dX11_person_78 : decode cX11_person 78 = .ok (.aload_n 0, 1) := by decide +kernel
theorem dX11_person_79 : decode cX11_person 79 = .ok (.getfield 175, 3) := by decide +kernel
theorem dX11_person_82 : decode cX11_person 82 = .ok (.iload_n 1, 1) := by decide +kernel
theorem dX11_person_83 : decode cX11_person 83 = .ok (.iaload, 1) := by decide +kernel
theorem dX11_person_84 : decode cX11_person 84 = .ok (.ireturn, 1) := by decide +kernel
theorem dX11_person_85 : decode cX11_person 85 = .ok (.aload_n 0, 1) := by decide +kernel
theorem dX11_person_86 : decode cX11_person 86 = .ok (.getfield 172, 3) := by decide +kernel
theorem dX11_person_89 : decode cX11_person 89 = .ok (.iload_n 1, 1) := by decide +kernel
theorem dX11_person_90 : decode cX11_person 90 = .ok (.iaload, 1) := by decide +kernel
theorem dX11_person_91 : decode cX11_person 91 = .ok (.ireturn, 1) := by decide +kernel
theorem dX11_person_92 : decode cX11_person 92 = .ok (.aload_n 0, 1) := by decide +kernel
theorem dX11_person_93 : decode cX11_person 93 = .ok (.iload_n 1, 1) := by decide +kernel
theorem dX11_person_94 : decode cX11_person 94 = .ok (.invokevirtual 437, 3) := by decide +kernel
theorem dX11_person_97 : decode cX11_person 97 = .ok (.ireturn, 1) := by decide +kernel
theorem dX11_person_98 : decode cX11_person 98 = .ok (.aload_n 0, 1) := by decide +kernel
theorem dX11_person_99 : decode cX11_person 99 = .ok (.iload_n 1, 1) := by decide +kernel
theorem dX11_person_100 : decode cX11_person 100 = .ok (.invokevirtual 443, 3) := by decide +kernel
theorem dX11_person_103 : decode cX11_person 103 = .ok (.ireturn, 1) := by decide +kernel
theorem dX11_person_104 : decode cX11_person 104 = .ok (.aload_n 0, 1) := by decide +kernel
theorem dX11_person_105 : decode cX11_person 105 = .ok (.iload_n 1, 1) := by decide +kernel
theorem dX11_person_106 : decode cX11_person 106 = .ok (.invokevirtual 466, 3) := by decide +kernel
theorem dX11_person_109 : decode cX11_person 109 = .ok (.ireturn, 1) := by decide +kernel
theorem dX11_person_110 : decode cX11_person 110 = .ok (.aload_n 0, 1) := by decide +kernel
theorem dX11_person_111 : decode cX11_person 111 = .ok (.getfield 178, 3) := by decide +kernel
theorem dX11_person_114 : decode cX11_person 114 = .ok (.iload_n 1, 1) := by decide +kernel
theorem dX11_person_115 : decode cX11_person 115 = .ok (.iaload, 1) := by decide +kernel
theorem dX11_person_116 : decode cX11_person 116 = .ok (.ireturn, 1) := by decide +kernel
theorem dX11_person_117 : decode cX11_person 117 = .ok (.aload_n 0, 1) := by decide +kernel
theorem dX11_person_118 : decode cX11_person 118 = .ok (.getfield 181, 3) := by decide +kernel
theorem dX11_person_121 : decode cX11_person 121 = .ok (.iload_n 1, 1) := by decide +kernel
theorem dX11_person_122 : decode cX11_person 122 = .ok (.iaload, 1) := by decide +kernel
theorem dX11_person_123 : decode cX11_person 123 = .ok (.ireturn, 1) := by decide +kernel
theorem dX11_person_124 : decode cX11_person 124 = .ok (.aload_n 0, 1) := by decide +kernel
theorem dX11_person_125 : decode cX11_person 125 = .ok (.iload_n 1, 1) := by decide +kernel
theorem dX11_person_126 : decode cX11_person 126 = .ok (.invokevirtual 484, 3) := by decide +kernel
theorem dX11_person_129 : decode cX11_person 129 = .ok (.ireturn, 1) := by decide +kernel
theorem dX11_person_130 : decode cX11_person 130 = .ok (.iconst (-1), 1) := by decide +kernel
theorem dX11_person_131 : decode cX11_person 131 = .ok (.ireturn, 1) := by decide +kernel
theorem dX11_hat_0 : decode cX11_hat 0 = .ok (.aload_n 0, 1) := by decide +kernel
theorem dX11_hat_1 : decode cX11_hat 1 = .ok (.iload_n 1, 1) := by decide +kernel
theorem dX11_hat_2 : decode cX11_hat 2 = .ok (.invokevirtual 487, 3) := by decide +kernel
theorem dX11_hat_5 : decode cX11_hat 5 = .ok (.ifCond .ne 5, 3) := by decide +kernel
theorem dX11_hat_8 : decode cX11_hat 8 = .ok (.iconst (-1), 1) := by decide +kernel
theorem dX11_hat_9 : decode cX11_hat 9 = .ok (.ireturn, 1) := by decide +kernel
theorem dX11_hat_10 : decode cX11_hat 10 = .ok (.iload_n 2, 1) := by decide +kernel
theorem dX11_hat_11 : decode cX11_hat 11 = .ok (.tableswitch 76 0 7 #[45, 45, 45, 45, 52, 58, 64, 70], 45) := by decide +kernel
theorem dX11_hat_56 : decode cX11_hat 56 = .ok (.aload_n 0, 1) := by decide +kernel
theorem dX11_hat_57 : decode cX11_hat 57 = .ok (.iload_n 1, 1) := by decide +kernel
theorem dX11_hat_58 : decode cX11_hat 58 = .ok (.iload_n 2, 1) := by decide +kernel
theorem dX11_hat_59 : decode cX11_hat 59 = .ok (.invokevirtual 440, 3) := by decide +kernel
theorem dX11_hat_62 : decode cX11_hat 62 = .ok (.ireturn, 1) := by decide +kernel
theorem dX11_hat_63 : decode cX11_hat 63 = .ok (.aload_n 0, 1) := by decide +kernel
theorem dX11_hat_64 : decode cX11_hat 64 = .ok (.iload_n 1, 1) := by decide +kernel
theorem dX11_hat_65 : decode cX11_hat 65 = .ok (.invokevirtual 446, 3) := by decide +kernel
theorem dX11_hat_68 : decode cX11_hat 68 = .ok (.ireturn, 1) := by decide +kernel
theorem dX11_hat_69 : decode cX11_hat 69 = .ok (.aload_n 0, 1) := by decide +kernel
theorem dX11_hat_70 : decode cX11_hat 70 = .ok (.iload_n 1, 1) := by decide +kernel
theorem dX11_hat_71 : decode cX11_hat 71 = .ok (.invokevirtual 449, 3) := by decide +kernel
theorem dX11_hat_74 : decode cX11_hat 74 = .ok (.ireturn, 1) := by decide +kernel
theorem dX11_hat_75 : decode cX11_hat 75 = .ok (.aload_n 0, 1) := by decide +kernel
theorem dX11_hat_76 : decode cX11_hat 76 = .ok (.iload_n 1, 1) := by decide +kernel
theorem dX11_hat_77 : decode cX11_hat 77 = .ok (.invokevirtual 454, 3) := by decide +kernel
theorem dX11_hat_80 : decode cX11_hat 80 = .ok (.ireturn, 1) := by decide +kernel
theorem dX11_hat_81 : decode cX11_hat 81 = .ok (.aload_n 0, 1) := by decide +kernel
theorem dX11_hat_82 : decode cX11_hat 82 = .ok (.iload_n 1, 1) := by decide +kernel
theorem dX11_hat_83 : decode cX11_hat 83 = .ok (.invokevirtual 457, 3) := by decide +kernel
theorem dX11_hat_86 : decode cX11_hat 86 = .ok (.ireturn, 1) := by decide +kernel
theorem dX11_hat_87 : decode cX11_hat 87 = .ok (.iconst (-1), 1) := by decide +kernel
theorem dX11_hat_88 : decode cX11_hat 88 = .ok (.ireturn, 1) := by decide +kernel
theorem dX11_put_0 : decode cX11_put 0 = .ok (.aload_n 0, 1) := by decide +kernel
theorem dX11_put_1 : decode cX11_put 1 = .ok (.iload_n 1, 1) := by decide +kernel
theorem dX11_put_2 : decode cX11_put 2 = .ok (.invokevirtual 481, 3) := by decide +kernel
theorem dX11_put_5 : decode cX11_put 5 = .ok (.ifCond .eq 17, 3) := by decide +kernel
theorem dX11_put_8 : decode cX11_put 8 = .ok (.iload_n 2, 1) := by decide +kernel
theorem dX11_put_9 : decode cX11_put 9 = .ok (.i2l, 1) := by decide +kernel
theorem dX11_put_10 : decode cX11_put 10 = .ok (.lconst 0, 1) := by decide +kernel
theorem dX11_put_11 : decode cX11_put 11 = .ok (.aload_n 0, 1) := by decide +kernel
theorem dX11_put_12 : decode cX11_put 12 = .ok (.getfield 142, 3) := by decide +kernel
theorem dX11_put_15 : decode cX11_put 15 = .ok (.i2l, 1) := by decide +kernel
theorem dX11_put_16 : decode cX11_put 16 = .ok (.invokestatic 264, 3) := by decide +kernel
theorem dX11_put_19 : decode cX11_put 19 = .ok (.ifCond .ne 5, 3) := by decide +kernel
theorem dX11_put_22 : decode cX11_put 22 = .ok (.iconst (-1), 1) := by decide +kernel
theorem dX11_put_23 : decode cX11_put 23 = .ok (.ireturn, 1) := by decide +kernel
theorem dX11_put_24 : decode cX11_put 24 = .ok (.aload_n 0, 1) := by decide +kernel
theorem dX11_put_25 : decode cX11_put 25 = .ok (.getfield 175, 3) := by decide +kernel
theorem dX11_put_28 : decode cX11_put 28 = .ok (.iload_n 1, 1) := by decide +kernel
theorem dX11_put_29 : decode cX11_put 29 = .ok (.iaload, 1) := by decide +kernel
theorem dX11_put_30 : decode cX11_put 30 = .ok (.istore_n 3, 1) := by decide +kernel
theorem dX11_put_31 : decode cX11_put 31 = .ok (.aload_n 0, 1) := by decide +kernel
theorem dX11_put_32 : decode cX11_put 32 = .ok (.getfield 175, 3) := by decide +kernel
theorem dX11_put_35 : decode cX11_put 35 = .ok (.iload_n 1, 1) := by decide +kernel
theorem dX11_put_36 : decode cX11_put 36 = .ok (.iload_n 2, 1) := by decide +kernel
theorem dX11_put_37 : decode cX11_put 37 = .ok (.iastore, 1) := by decide +kernel
theorem dX11_put_38 : decode cX11_put 38 = .ok (.iload_n 3, 1) := by decide +kernel
theorem dX11_put_39 : decode cX11_put 39 = .ok (.ireturn, 1) := by decide +kernel
theorem dX11_move_0 : decode cX11_move 0 = .ok (.aload_n 0, 1) := by decide +kernel
theorem dX11_move_1 : decode cX11_move 1 = .ok (.iload_n 1, 1) := by decide +kernel
theorem dX11_move_2 : decode cX11_move 2 = .ok (.invokevirtual 481, 3) := by decide +kernel
theorem dX11_move_5 : decode cX11_move 5 = .ok (.ifCond .eq 26, 3) := by decide +kernel
theorem dX11_move_8 : decode cX11_move 8 = .ok (.iload_n 2, 1) := by decide +kernel
theorem dX11_move_9 : decode cX11_move 9 = .ok (.iconst (-1), 1) := by decide +kernel
theorem dX11_move_10 : decode cX11_move 10 = .ok (.if_icmp .eq 11, 3) := by decide +kernel
theorem dX11_move_13 : decode cX11_move 13 = .ok (.aload_n 0, 1) := by decide +kernel
theorem dX11_move_14 : decode cX11_move 14 = .ok (.iload_n 2, 1) := by decide +kernel
theorem dX11_move_15 : decode cX11_move 15 = .ok (.invokevirtual 487, 3) := by decide +kernel
theorem dX11_move_18 : decode cX11_move 18 = .ok (.ifCond .eq 13, 3) := by decide +kernel
theorem dX11_move_21 : decode cX11_move 21 = .ok (.aload_n 0, 1) := by decide +kernel
theorem dX11_move_22 : decode cX11_move 22 = .ok (.getfield 169, 3) := by decide +kernel
theorem dX11_move_25 : decode cX11_move 25 = .ok (.iload_n 1, 1) := by decide +kernel
theorem dX11_move_26 : decode cX11_move 26 = .ok (.iaload, 1) := by decide +kernel
theorem dX11_move_27 : decode cX11_move 27 = .ok (.iload_n 2, 1) := by decide +kernel
theorem dX11_move_28 : decode cX11_move 28 = .ok (.if_icmp .ne 5, 3) := by decide +kernel
theorem dX11_move_31 : decode cX11_move 31 = .ok (.iconst 0, 1) := by decide +kernel
theorem dX11_move_32 : decode cX11_move 32 = .ok (.ireturn, 1) := by decide +kernel
theorem dX11_move_33 : decode cX11_move 33 = .ok (.aload_n 0, 1) := by decide +kernel
theorem dX11_move_34 : decode cX11_move 34 = .ok (.getfield 169, 3) := by decide +kernel
theorem dX11_move_37 : decode cX11_move 37 = .ok (.iload_n 1, 1) := by decide +kernel
theorem dX11_move_38 : decode cX11_move 38 = .ok (.iload_n 2, 1) := by decide +kernel
theorem dX11_move_39 : decode cX11_move 39 = .ok (.iastore, 1) := by decide +kernel
theorem dX11_move_40 : decode cX11_move 40 = .ok (.iconst 1, 1) := by decide +kernel
theorem dX11_move_41 : decode cX11_move 41 = .ok (.ireturn, 1) := by decide +kernel
theorem dX11_keep_0 : decode cX11_keep 0 = .ok (.aload_n 0, 1) := by decide +kernel
theorem dX11_keep_1 : decode cX11_keep 1 = .ok (.iload_n 1, 1) := by decide +kernel
theorem dX11_keep_2 : decode cX11_keep 2 = .ok (.invokevirtual 487, 3) := by decide +kernel
theorem dX11_keep_5 : decode cX11_keep 5 = .ok (.ifCond .eq 15, 3) := by decide +kernel
theorem dX11_keep_8 : decode cX11_keep 8 = .ok (.iload_n 2, 1) := by decide +kernel
theorem dX11_keep_9 : decode cX11_keep 9 = .ok (.i2l, 1) := by decide +kernel
theorem dX11_keep_10 : decode cX11_keep 10 = .ok (.lconst 0, 1) := by decide +kernel
theorem dX11_keep_11 : decode cX11_keep 11 = .ok (.ldc2_w 452, 3) := by decide +kernel
theorem dX11_keep_14 : decode cX11_keep 14 = .ok (.invokestatic 264, 3) := by decide +kernel
theorem dX11_keep_17 : decode cX11_keep 17 = .ok (.ifCond .ne 5, 3) := by decide +kernel
theorem dX11_keep_20 : decode cX11_keep 20 = .ok (.iconst (-1), 1) := by decide +kernel
theorem dX11_keep_21 : decode cX11_keep 21 = .ok (.ireturn, 1) := by decide +kernel
theorem dX11_keep_22 : decode cX11_keep 22 = .ok (.aload_n 0, 1) := by decide +kernel
theorem dX11_keep_23 : decode cX11_keep 23 = .ok (.iload_n 1, 1) := by decide +kernel
theorem dX11_keep_24 : decode cX11_keep 24 = .ok (.iconst 0, 1) := by decide +kernel
theorem dX11_keep_25 : decode cX11_keep 25 = .ok (.invokevirtual 440, 3) := by decide +kernel
theorem dX11_keep_28 : decode cX11_keep 28 = .ok (.istore_n 3, 1) := by decide +kernel
theorem dX11_keep_29 : decode cX11_keep 29 = .ok (.aload_n 0, 1) := by decide +kernel
theorem dX11_keep_30 : decode cX11_keep 30 = .ok (.getfield 127, 3) := by decide +kernel
theorem dX11_keep_33 : decode cX11_keep 33 = .ok (.bipush 16, 2) := by decide +kernel
theorem dX11_keep_35 : decode cX11_keep 35 = .ok (.iconst 4, 1) := by decide +kernel
theorem dX11_keep_36 : decode cX11_keep 36 = .ok (.iload_n 1, 1) := by decide +kernel
theorem dX11_keep_37 : decode cX11_keep 37 = .ok (.imul, 1) := by decide +kernel
theorem dX11_keep_38 : decode cX11_keep 38 = .ok (.iadd, 1) := by decide +kernel
theorem dX11_keep_39 : decode cX11_keep 39 = .ok (.iload_n 2, 1) := by decide +kernel
theorem dX11_keep_40 : decode cX11_keep 40 = .ok (.iastore, 1) := by decide +kernel
theorem dX11_keep_41 : decode cX11_keep 41 = .ok (.iload_n 3, 1) := by decide +kernel
theorem dX11_keep_42 : decode cX11_keep 42 = .ok (.ireturn, 1) := by decide +kernel
theorem dX11_worth_0 : decode cX11_worth 0 = .ok (.aload_n 0, 1) := by decide +kernel
theorem dX11_worth_1 : decode cX11_worth 1 = .ok (.iload_n 1, 1) := by decide +kernel
theorem dX11_worth_2 : decode cX11_worth 2 = .ok (.invokevirtual 481, 3) := by decide +kernel
theorem dX11_worth_5 : decode cX11_worth 5 = .ok (.ifCond .eq 22, 3) := by decide +kernel
theorem dX11_worth_8 : decode cX11_worth 8 = .ok (.iload_n 2, 1) := by decide +kernel
theorem dX11_worth_9 : decode cX11_worth 9 = .ok (.iconst (-1), 1) := by decide +kernel
theorem dX11_worth_10 : decode cX11_worth 10 = .ok (.if_icmp .eq 21, 3) := by decide +kernel
theorem dX11_worth_13 : decode cX11_worth 13 = .ok (.iload_n 2, 1) := by decide +kernel
theorem dX11_worth_14 : decode cX11_worth 14 = .ok (.i2l, 1) := by decide +kernel
theorem dX11_worth_15 : decode cX11_worth 15 = .ok (.lconst 0, 1) := by decide +kernel
theorem dX11_worth_16 : decode cX11_worth 16 = .ok (.aload_n 0, 1) := by decide +kernel
theorem dX11_worth_17 : decode cX11_worth 17 = .ok (.getfield 142, 3) := by decide +kernel
theorem dX11_worth_20 : decode cX11_worth 20 = .ok (.i2l, 1) := by decide +kernel
theorem dX11_worth_21 : decode cX11_worth 21 = .ok (.invokestatic 264, 3) := by decide +kernel
theorem dX11_worth_24 : decode cX11_worth 24 = .ok (.ifCond .ne 7, 3) := by decide +kernel
theorem dX11_worth_27 : decode cX11_worth 27 = .ok (.ldc_w 490, 3) := by decide +kernel
theorem dX11_worth_30 : decode cX11_worth 30 = .ok (.ireturn, 1) := by decide +kernel
theorem dX11_worth_31 : decode cX11_worth 31 = .ok (.aload_n 0, 1) := by decide +kernel
theorem dX11_worth_32 : decode cX11_worth 32 = .ok (.iload_n 1, 1) := by decide +kernel
theorem dX11_worth_33 : decode cX11_worth 33 = .ok (.iload_n 2, 1) := by decide +kernel
theorem dX11_worth_34 : decode cX11_worth 34 = .ok (.iconst (-1), 1) := by decide +kernel
theorem dX11_worth_35 : decode cX11_worth 35 = .ok (.if_icmp .ne 12, 3) := by decide +kernel
theorem dX11_worth_38 : decode cX11_worth 38 = .ok (.aload_n 0, 1) := by decide +kernel
theorem dX11_worth_39 : decode cX11_worth 39 = .ok (.getfield 175, 3) := by decide +kernel
theorem dX11_worth_42 : decode cX11_worth 42 = .ok (.iload_n 1, 1) := by decide +kernel
theorem dX11_worth_43 : decode cX11_worth 43 = .ok (.iaload, 1) := by decide +kernel
theorem dX11_worth_44 : decode cX11_worth 44 = .ok (.goto 4, 3) := by decide +kernel
theorem dX11_worth_47 : decode cX11_worth 47 = .ok (.iload_n 2, 1) := by decide +kernel
theorem dX11_worth_48 : decode cX11_worth 48 = .ok (.invokevirtual 478, 3) := by decide +kernel
theorem dX11_worth_51 : decode cX11_worth 51 = .ok (.ireturn, 1) := by decide +kernel
theorem dX11_allWorths_0 : decode cX11_allWorths 0 = .ok (.iconst 0, 1) := by decide +kernel
theorem dX11_allWorths_1 : decode cX11_allWorths 1 = .ok (.istore_n 1, 1) := by decide +kernel
theorem dX11_allWorths_2 : decode cX11_allWorths 2 = .ok (.aload_n 0, 1) := by decide +kernel
theorem dX11_allWorths_3 : decode cX11_allWorths 3 = .ok (.getfield 364, 3) := by decide +kernel
theorem dX11_allWorths_6 : decode cX11_allWorths 6 = .ok (.istore_n 2, 1) := by decide +kernel
theorem dX11_allWorths_7 : decode cX11_allWorths 7 = .ok (.iload_n 2, 1) := by decide +kernel
theorem dX11_allWorths_8 : decode cX11_allWorths 8 = .ok (.aload_n 0, 1) := by decide +kernel
theorem dX11_allWorths_9 : decode cX11_allWorths 9 = .ok (.getfield 364, 3) := by decide +kernel
theorem dX11_allWorths_12 : decode cX11_allWorths 12 = .ok (.aload_n 0, 1) := by decide +kernel
theorem dX11_allWorths_13 : decode cX11_allWorths 13 = .ok (.getfield 367, 3) := by decide +kernel
theorem dX11_allWorths_16 : decode cX11_allWorths 16 = .ok (.iadd, 1) := by decide +kernel
theorem dX11_allWorths_17 : decode cX11_allWorths 17 = .ok (.if_icmp .ge 17, 3) := by decide +kernel
theorem dX11_allWorths_20 : decode cX11_allWorths 20 = .ok (.iload_n 1, 1) := by decide +kernel
theorem dX11_allWorths_21 : decode cX11_allWorths 21 = .ok (.aload_n 0, 1) := by decide +kernel
theorem dX11_allWorths_22 : decode cX11_allWorths 22 = .ok (.iload_n 2, 1) := by decide +kernel
theorem dX11_allWorths_23 : decode cX11_allWorths 23 = .ok (.invokevirtual 475, 3) := by decide +kernel
theorem dX11_allWorths_26 : decode cX11_allWorths 26 = .ok (.iadd, 1) := by decide +kernel
theorem dX11_allWorths_27 : decode cX11_allWorths 27 = .ok (.istore_n 1, 1) := by decide +kernel
theorem dX11_allWorths_28 : decode cX11_allWorths 28 = .ok (.iinc 2 1, 3) := by decide +kernel
theorem dX11_allWorths_31 : decode cX11_allWorths 31 = .ok (.goto (-24), 3) := by decide +kernel
theorem dX11_allWorths_34 : decode cX11_allWorths 34 = .ok (.iload_n 1, 1) := by decide +kernel
theorem dX11_allWorths_35 : decode cX11_allWorths 35 = .ok (.ireturn, 1) := by decide +kernel
theorem dX11_all_0 : decode cX11_all 0 = .ok (.aload_n 0, 1) := by decide +kernel
theorem dX11_all_1 : decode cX11_all 1 = .ok (.invokevirtual 491, 3) := by decide +kernel
theorem dX11_all_4 : decode cX11_all 4 = .ok (.ireturn, 1) := by decide +kernel
theorem dX11_isRound_0 : decode cX11_isRound 0 = .ok (.iconst 0, 1) := by decide +kernel
theorem dX11_isRound_1 : decode cX11_isRound 1 = .ok (.istore_n 1, 1) := by decide +kernel
theorem dX11_isRound_2 : decode cX11_isRound 2 = .ok (.aload_n 0, 1) := by decide +kernel
theorem dX11_isRound_3 : decode cX11_isRound 3 = .ok (.getfield 364, 3) := by decide +kernel
theorem dX11_isRound_6 : decode cX11_isRound 6 = .ok (.istore_n 2, 1) := by decide +kernel
theorem dX11_isRound_7 : decode cX11_isRound 7 = .ok (.iload_n 2, 1) := by decide +kernel
theorem dX11_isRound_8 : decode cX11_isRound 8 = .ok (.aload_n 0, 1) := by decide +kernel
theorem dX11_isRound_9 : decode cX11_isRound 9 = .ok (.getfield 364, 3) := by decide +kernel
theorem dX11_isRound_12 : decode cX11_isRound 12 = .ok (.aload_n 0, 1) := by decide +kernel
theorem dX11_isRound_13 : decode cX11_isRound 13 = .ok (.getfield 367, 3) := by decide +kernel
theorem dX11_isRound_16 : decode cX11_isRound 16 = .ok (.iadd, 1) := by decide +kernel
theorem dX11_isRound_17 : decode cX11_isRound 17 = .ok (.if_icmp .ge 42, 3) := by decide +kernel
theorem dX11_isRound_20 : decode cX11_isRound 20 = .ok (.aload_n 0, 1) := by decide +kernel
theorem dX11_isRound_21 : decode cX11_isRound 21 = .ok (.iload_n 2, 1) := by decide +kernel
theorem dX11_isRound_22 : decode cX11_isRound 22 = .ok (.invokevirtual 484, 3) := by decide +kernel
theorem dX11_isRound_25 : decode cX11_isRound 25 = .ok (.istore_n 3, 1) := by decide +kernel
theorem dX11_isRound_26 : decode cX11_isRound 26 = .ok (.iload_n 1, 1) := by decide +kernel
theorem dX11_isRound_27 : decode cX11_isRound 27 = .ok (.ifCond .ne 13, 3) := by decide +kernel
theorem dX11_isRound_30 : decode cX11_isRound 30 = .ok (.iload_n 3, 1) := by decide +kernel
theorem dX11_isRound_31 : decode cX11_isRound 31 = .ok (.aload_n 0, 1) := by decide +kernel
theorem dX11_isRound_32 : decode cX11_isRound 32 = .ok (.getfield 175, 3) := by decide +kernel
theorem dX11_isRound_35 : decode cX11_isRound 35 = .ok (.iload_n 2, 1) := by decide +kernel
theorem dX11_isRound_36 : decode cX11_isRound 36 = .ok (.iaload, 1) := by decide +kernel
theorem dX11_isRound_37 : decode cX11_isRound 37 = .ok (.if_icmp .eq 7, 3) := by decide +kernel
theorem dX11_isRound_40 : decode cX11_isRound 40 = .ok (.iconst 1, 1) := by decide +kernel
theorem dX11_isRound_41 : decode cX11_isRound 41 = .ok (.goto 4, 3) := by decide +kernel
theorem dX11_isRound_44 : decode cX11_isRound 44 = .ok (.iconst 0, 1) := by decide +kernel
theorem dX11_isRound_45 : decode cX11_isRound 45 = .ok (.istore_n 1, 1) := by decide +kernel
theorem dX11_isRound_46 : decode cX11_isRound 46 = .ok (.aload_n 0, 1) := by decide +kernel
theorem dX11_isRound_47 : decode cX11_isRound 47 = .ok (.getfield 175, 3) := by decide +kernel
theorem dX11_isRound_50 : decode cX11_isRound 50 = .ok (.iload_n 2, 1) := by decide +kernel
theorem dX11_isRound_51 : decode cX11_isRound 51 = .ok (.iload_n 3, 1) := by decide +kernel
theorem dX11_isRound_52 : decode cX11_isRound 52 = .ok (.iastore, 1) := by decide +kernel
theorem dX11_isRound_53 : decode cX11_isRound 53 = .ok (.iinc 2 1, 3) := by decide +kernel
theorem dX11_isRound_56 : decode cX11_isRound 56 = .ok (.goto (-49), 3) := by decide +kernel
theorem dX11_isRound_59 : decode cX11_isRound 59 = .ok (.iload_n 1, 1) := by decide +kernel
theorem dX11_isRound_60 : decode cX11_isRound 60 = .ok (.ireturn, 1) := by decide +kernel
theorem dX11_rounds_0 : decode cX11_rounds 0 = .ok (.iconst 1, 1) := by decide +kernel
theorem dX11_rounds_1 : decode cX11_rounds 1 = .ok (.istore_n 2, 1) := by decide +kernel
theorem dX11_rounds_2 : decode cX11_rounds 2 = .ok (.iload_n 2, 1) := by decide +kernel
theorem dX11_rounds_3 : decode cX11_rounds 3 = .ok (.iload_n 1, 1) := by decide +kernel
theorem dX11_rounds_4 : decode cX11_rounds 4 = .ok (.if_icmp .gt 18, 3) := by decide +kernel
theorem dX11_rounds_7 : decode cX11_rounds 7 = .ok (.aload_n 0, 1) := by decide +kernel
theorem dX11_rounds_8 : decode cX11_rounds 8 = .ok (.invokevirtual 494, 3) := by decide +kernel
theorem dX11_rounds_11 : decode cX11_rounds 11 = .ok (.ifCond .ne 5, 3) := by decide +kernel
theorem dX11_rounds_14 : decode cX11_rounds 14 = .ok (.iload_n 2, 1) := by decide +kernel
theorem dX11_rounds_15 : decode cX11_rounds 15 = .ok (.ireturn, 1) := by decide +kernel
theorem dX11_rounds_16 : decode cX11_rounds 16 = .ok (.iinc 2 1, 3) := by decide +kernel
theorem dX11_rounds_19 : decode cX11_rounds 19 = .ok (.goto (-17), 3) := by decide +kernel
theorem dX11_rounds_22 : decode cX11_rounds 22 = .ok (.bipush (-2), 2) := by decide +kernel
theorem dX11_rounds_24 : decode cX11_rounds 24 = .ok (.ireturn, 1) := by decide +kernel
theorem dX11_rest_0 : decode cX11_rest 0 = .ok (.iload_n 1, 1) := by decide +kernel
theorem dX11_rest_1 : decode cX11_rest 1 = .ok (.i2l, 1) := by decide +kernel
theorem dX11_rest_2 : decode cX11_rest 2 = .ok (.lconst 1, 1) := by decide +kernel
theorem dX11_rest_3 : decode cX11_rest 3 = .ok (.ldc2_w 497, 3) := by decide +kernel
theorem dX11_rest_6 : decode cX11_rest 6 = .ok (.invokestatic 264, 3) := by decide +kernel
theorem dX11_rest_9 : decode cX11_rest 9 = .ok (.ifCond .eq 11, 3) := by decide +kernel
theorem dX11_rest_12 : decode cX11_rest 12 = .ok (.aload_n 0, 1) := by decide +kernel
theorem dX11_rest_13 : decode cX11_rest 13 = .ok (.iload_n 1, 1) := by decide +kernel
theorem dX11_rest_14 : decode cX11_rest 14 = .ok (.invokevirtual 499, 3) := by decide +kernel
theorem dX11_rest_17 : decode cX11_rest 17 = .ok (.goto 4, 3) := by decide +kernel
theorem dX11_rest_20 : decode cX11_rest 20 = .ok (.iconst (-1), 1) := by decide +kernel
theorem dX11_rest_21 : decode cX11_rest 21 = .ok (.ireturn, 1) := by decide +kernel
theorem dX11_proof_0 : decode cX11_proof 0 = .ok (.iconst 0, 1) := by decide +kernel
theorem dX11_proof_1 : decode cX11_proof 1 = .ok (.istore_n 1, 1) := by decide +kernel
theorem dX11_proof_2 : decode cX11_proof 2 = .ok (.iconst 0, 1) := by decide +kernel
theorem dX11_proof_3 : decode cX11_proof 3 = .ok (.istore_n 2, 1) := by decide +kernel
theorem dX11_proof_4 : decode cX11_proof 4 = .ok (.iload_n 2, 1) := by decide +kernel
theorem dX11_proof_5 : decode cX11_proof 5 = .ok (.aload_n 0, 1) := by decide +kernel
theorem dX11_proof_6 : decode cX11_proof 6 = .ok (.invokevirtual 424, 3) := by decide +kernel
theorem dX11_proof_9 : decode cX11_proof 9 = .ok (.if_icmp .ge 33, 3) := by decide +kernel
theorem dX11_proof_12 : decode cX11_proof 12 = .ok (.aload_n 0, 1) := by decide +kernel
theorem dX11_proof_13 : decode cX11_proof 13 = .ok (.iload_n 2, 1) := by decide +kernel
theorem dX11_proof_14 : decode cX11_proof 14 = .ok (.aload_n 0, 1) := by decide +kernel
theorem dX11_proof_15 : decode cX11_proof 15 = .ok (.iload_n 2, 1) := by decide +kernel
theorem dX11_proof_16 : decode cX11_proof 16 = .ok (.invokevirtual 484, 3) := by decide +kernel
theorem dX11_proof_19 : decode cX11_proof 19 = .ok (.invokevirtual 478, 3) := by decide +kernel
theorem dX11_proof_22 : decode cX11_proof 22 = .ok (.aload_n 0, 1) := by decide +kernel
theorem dX11_proof_23 : decode cX11_proof 23 = .ok (.iload_n 2, 1) := by decide +kernel
theorem dX11_proof_24 : decode cX11_proof 24 = .ok (.invokevirtual 475, 3) := by decide +kernel
theorem dX11_proof_27 : decode cX11_proof 27 = .ok (.isub, 1) := by decide +kernel
theorem dX11_proof_28 : decode cX11_proof 28 = .ok (.istore_n 3, 1) := by decide +kernel
theorem dX11_proof_29 : decode cX11_proof 29 = .ok (.iload_n 3, 1) := by decide +kernel
theorem dX11_proof_30 : decode cX11_proof 30 = .ok (.iload_n 1, 1) := by decide +kernel
theorem dX11_proof_31 : decode cX11_proof 31 = .ok (.if_icmp .le 5, 3) := by decide +kernel
theorem dX11_proof_34 : decode cX11_proof 34 = .ok (.iload_n 3, 1) := by decide +kernel
theorem dX11_proof_35 : decode cX11_proof 35 = .ok (.istore_n 1, 1) := by decide +kernel
theorem dX11_proof_36 : decode cX11_proof 36 = .ok (.iinc 2 1, 3) := by decide +kernel
theorem dX11_proof_39 : decode cX11_proof 39 = .ok (.goto (-35), 3) := by decide +kernel
theorem dX11_proof_42 : decode cX11_proof 42 = .ok (.iload_n 1, 1) := by decide +kernel
theorem dX11_proof_43 : decode cX11_proof 43 = .ok (.ireturn, 1) := by decide +kernel
theorem dX11_putsAside_0 : decode cX11_putsAside 0 = .ok (.iconst 0, 1) := by decide +kernel
theorem dX11_putsAside_1 : decode cX11_putsAside 1 = .ok (.istore_n 1, 1) := by decide +kernel
theorem dX11_putsAside_2 : decode cX11_putsAside 2 = .ok (.iload_n 1, 1) := by decide +kernel
theorem dX11_putsAside_3 : decode cX11_putsAside 3 = .ok (.aload_n 0, 1) := by decide +kernel
theorem dX11_putsAside_4 : decode cX11_putsAside 4 = .ok (.invokevirtual 424, 3) := by decide +kernel
theorem dX11_putsAside_7 : decode cX11_putsAside 7 = .ok (.if_icmp .ge 21, 3) := by decide +kernel
theorem dX11_putsAside_10 : decode cX11_putsAside 10 = .ok (.aload_n 0, 1) := by decide +kernel
theorem dX11_putsAside_11 : decode cX11_putsAside 11 = .ok (.getfield 193, 3) := by decide +kernel
theorem dX11_putsAside_14 : decode cX11_putsAside 14 = .ok (.iload_n 1, 1) := by decide +kernel
theorem dX11_putsAside_15 : decode cX11_putsAside 15 = .ok (.aload_n 0, 1) := by decide +kernel
theorem dX11_putsAside_16 : decode cX11_putsAside 16 = .ok (.getfield 175, 3) := by decide +kernel
theorem dX11_putsAside_19 : decode cX11_putsAside 19 = .ok (.iload_n 1, 1) := by decide +kernel
theorem dX11_putsAside_20 : decode cX11_putsAside 20 = .ok (.iaload, 1) := by decide +kernel
theorem dX11_putsAside_21 : decode cX11_putsAside 21 = .ok (.iastore, 1) := by decide +kernel
theorem dX11_putsAside_22 : decode cX11_putsAside 22 = .ok (.iinc 1 1, 3) := by decide +kernel
theorem dX11_putsAside_25 : decode cX11_putsAside 25 = .ok (.goto (-23), 3) := by decide +kernel
theorem dX11_putsAside_28 : decode cX11_putsAside 28 = .ok (.return_, 1) := by decide +kernel
theorem dX11_takesBack_0 : decode cX11_takesBack 0 = .ok (.iconst 0, 1) := by decide +kernel
theorem dX11_takesBack_1 : decode cX11_takesBack 1 = .ok (.istore_n 1, 1) := by decide +kernel
theorem dX11_takesBack_2 : decode cX11_takesBack 2 = .ok (.iload_n 1, 1) := by decide +kernel
theorem dX11_takesBack_3 : decode cX11_takesBack 3 = .ok (.aload_n 0, 1) := by decide +kernel
theorem dX11_takesBack_4 : decode cX11_takesBack 4 = .ok (.invokevirtual 424, 3) := by decide +kernel
theorem dX11_takesBack_7 : decode cX11_takesBack 7 = .ok (.if_icmp .ge 21, 3) := by decide +kernel
theorem dX11_takesBack_10 : decode cX11_takesBack 10 = .ok (.aload_n 0, 1) := by decide +kernel
theorem dX11_takesBack_11 : decode cX11_takesBack 11 = .ok (.getfield 175, 3) := by decide +kernel
theorem dX11_takesBack_14 : decode cX11_takesBack 14 = .ok (.iload_n 1, 1) := by decide +kernel
theorem dX11_takesBack_15 : decode cX11_takesBack 15 = .ok (.aload_n 0, 1) := by decide +kernel
theorem dX11_takesBack_16 : decode cX11_takesBack 16 = .ok (.getfield 193, 3) := by decide +kernel
theorem dX11_takesBack_19 : decode cX11_takesBack 19 = .ok (.iload_n 1, 1) := by decide +kernel
theorem dX11_takesBack_20 : decode cX11_takesBack 20 = .ok (.iaload, 1) := by decide +kernel
theorem dX11_takesBack_21 : decode cX11_takesBack 21 = .ok (.iastore, 1) := by decide +kernel
theorem dX11_takesBack_22 : decode cX11_takesBack 22 = .ok (.iinc 1 1, 3) := by decide +kernel
theorem dX11_takesBack_25 : decode cX11_takesBack 25 = .ok (.goto (-23), 3) := by decide +kernel
theorem dX11_takesBack_28 : decode cX11_takesBack 28 = .ok (.return_, 1) := by decide +kernel
theorem dX11_part_0 : decode cX11_part 0 = .ok (.aload_n 0, 1) := by decide +kernel
theorem dX11_part_1 : decode cX11_part 1 = .ok (.iload_n 1, 1) := by decide +kernel
theorem dX11_part_2 : decode cX11_part 2 = .ok (.invokevirtual 487, 3) := by decide +kernel
theorem dX11_part_5 : decode cX11_part 5 = .ok (.ifCond .eq 13, 3) := by decide +kernel
theorem dX11_part_8 : decode cX11_part 8 = .ok (.iload_n 2, 1) := by decide +kernel
theorem dX11_part_9 : decode cX11_part 9 = .ok (.i2l, 1) := by decide +kernel
theorem dX11_part_10 : decode cX11_part 10 = .ok (.lconst 0, 1) := by decide +kernel
theorem dX11_part_11 : decode cX11_part 11 = .ok (.lconst 1, 1) := by decide +kernel
theorem dX11_part_12 : decode cX11_part 12 = .ok (.invokestatic 264, 3) := by decide +kernel
theorem dX11_part_15 : decode cX11_part 15 = .ok (.ifCond .ne 7, 3) := by decide +kernel
theorem dX11_part_18 : decode cX11_part 18 = .ok (.ldc_w 490, 3) := by decide +kernel
theorem dX11_part_21 : decode cX11_part 21 = .ok (.ireturn, 1) := by decide +kernel
theorem dX11_part_22 : decode cX11_part 22 = .ok (.aload_n 0, 1) := by decide +kernel
theorem dX11_part_23 : decode cX11_part 23 = .ok (.iload_n 1, 1) := by decide +kernel
theorem dX11_part_24 : decode cX11_part 24 = .ok (.iconst 0, 1) := by decide +kernel
theorem dX11_part_25 : decode cX11_part 25 = .ok (.invokevirtual 440, 3) := by decide +kernel
theorem dX11_part_28 : decode cX11_part 28 = .ok (.istore_n 3, 1) := by decide +kernel
theorem dX11_part_29 : decode cX11_part 29 = .ok (.iconst (-1), 1) := by decide +kernel
theorem dX11_part_30 : decode cX11_part 30 = .ok (.istore 4, 2) := by decide +kernel
theorem dX11_part_32 : decode cX11_part 32 = .ok (.iconst 0, 1) := by decide +kernel
theorem dX11_part_33 : decode cX11_part 33 = .ok (.istore 5, 2) := by decide +kernel
theorem dX11_part_35 : decode cX11_part 35 = .ok (.aload_n 0, 1) := by decide +kernel
theorem dX11_part_36 : decode cX11_part 36 = .ok (.invokevirtual 502, 3) := by decide +kernel
theorem dX11_part_39 : decode cX11_part 39 = .ok (.iconst 0, 1) := by decide +kernel
theorem dX11_part_40 : decode cX11_part 40 = .ok (.istore 6, 2) := by decide +kernel
theorem dX11_part_42 : decode cX11_part 42 = .ok (.iload 6, 2) := by decide +kernel
theorem dX11_part_44 : decode cX11_part 44 = .ok (.bipush 100, 2) := by decide +kernel
theorem dX11_part_46 : decode cX11_part 46 = .ok (.if_icmp .gt 64, 3) := by decide +kernel
theorem dX11_part_49 : decode cX11_part 49 = .ok (.aload_n 0, 1) := by decide +kernel
theorem dX11_part_50 : decode cX11_part 50 = .ok (.getfield 127, 3) := by decide +kernel
theorem dX11_part_53 : decode cX11_part 53 = .ok (.bipush 16, 2) := by decide +kernel
theorem dX11_part_55 : decode cX11_part 55 = .ok (.iconst 4, 1) := by decide +kernel
theorem dX11_part_56 : decode cX11_part 56 = .ok (.iload_n 1, 1) := by decide +kernel
theorem dX11_part_57 : decode cX11_part 57 = .ok (.imul, 1) := by decide +kernel
theorem dX11_part_58 : decode cX11_part 58 = .ok (.iadd, 1) := by decide +kernel
theorem dX11_part_59 : decode cX11_part 59 = .ok (.iload 6, 2) := by decide +kernel
theorem dX11_part_61 : decode cX11_part 61 = .ok (.iastore, 1) := by decide +kernel
theorem dX11_part_62 : decode cX11_part 62 = .ok (.aload_n 0, 1) := by decide +kernel
theorem dX11_part_63 : decode cX11_part 63 = .ok (.bipush 60, 2) := by decide +kernel
theorem dX11_part_65 : decode cX11_part 65 = .ok (.invokevirtual 499, 3) := by decide +kernel
theorem dX11_part_68 : decode cX11_part 68 = .ok (.istore 7, 2) := by decide +kernel
theorem dX11_part_70 : decode cX11_part 70 = .ok (.aload_n 0, 1) := by decide +kernel
theorem dX11_part_71 : decode cX11_part 71 = .ok (.invokevirtual 491, 3) := by decide +kernel
theorem dX11_part_74 : decode cX11_part 74 = .ok (.istore 8, 2) := by decide +kernel
theorem dX11_part_76 : decode cX11_part 76 = .ok (.aload_n 0, 1) := by decide +kernel
theorem dX11_part_77 : decode cX11_part 77 = .ok (.invokevirtual 505, 3) := by decide +kernel
theorem dX11_part_80 : decode cX11_part 80 = .ok (.iload 4, 2) := by decide +kernel
theorem dX11_part_82 : decode cX11_part 82 = .ok (.iconst (-1), 1) := by decide +kernel
theorem dX11_part_83 : decode cX11_part 83 = .ok (.if_icmp .eq 13, 3) := by decide +kernel
theorem dX11_part_86 : decode cX11_part 86 = .ok (.iload 8, 2) := by decide +kernel
theorem dX11_part_88 : decode cX11_part 88 = .ok (.iload 5, 2) := by decide +kernel
theorem dX11_part_90 : decode cX11_part 90 = .ok (.if_icmp .gt 6, 3) := by decide +kernel
theorem dX11_part_93 : decode cX11_part 93 = .ok (.goto 11, 3) := by decide +kernel
theorem dX11_part_96 : decode cX11_part 96 = .ok (.iload 6, 2) := by decide +kernel
theorem dX11_part_98 : decode cX11_part 98 = .ok (.istore 4, 2) := by decide +kernel
theorem dX11_part_100 : decode cX11_part 100 = .ok (.iload 8, 2) := by decide +kernel
theorem dX11_part_102 : decode cX11_part 102 = .ok (.istore 5, 2) := by decide +kernel
theorem dX11_part_104 : decode cX11_part 104 = .ok (.iinc 6 5, 3) := by decide +kernel
theorem dX11_part_107 : decode cX11_part 107 = .ok (.goto (-65), 3) := by decide +kernel
theorem dX11_part_110 : decode cX11_part 110 = .ok (.aload_n 0, 1) := by decide +kernel
theorem dX11_part_111 : decode cX11_part 111 = .ok (.getfield 127, 3) := by decide +kernel
theorem dX11_part_114 : decode cX11_part 114 = .ok (.bipush 16, 2) := by decide +kernel
theorem dX11_part_116 : decode cX11_part 116 = .ok (.iconst 4, 1) := by decide +kernel
theorem dX11_part_117 : decode cX11_part 117 = .ok (.iload_n 1, 1) := by decide +kernel
theorem dX11_part_118 : decode cX11_part 118 = .ok (.imul, 1) := by decide +kernel
theorem dX11_part_119 : decode cX11_part 119 = .ok (.iadd, 1) := by decide +kernel
theorem dX11_part_120 : decode cX11_part 120 = .ok (.iload_n 3, 1) := by decide +kernel
theorem dX11_part_121 : decode cX11_part 121 = .ok (.iastore, 1) := by decide +kernel
theorem dX11_part_122 : decode cX11_part 122 = .ok (.iload_n 2, 1) := by decide +kernel
theorem dX11_part_123 : decode cX11_part 123 = .ok (.ifCond .ne 8, 3) := by decide +kernel
theorem dX11_part_126 : decode cX11_part 126 = .ok (.iload 4, 2) := by decide +kernel
theorem dX11_part_128 : decode cX11_part 128 = .ok (.goto 5, 3) := by decide +kernel
theorem dX11_part_131 : decode cX11_part 131 = .ok (.iload 5, 2) := by decide +kernel
theorem dX11_part_133 : decode cX11_part 133 = .ok (.ireturn, 1) := by decide +kernel
theorem dX11_look__0 : decode cX11_look_ 0 = .ok (.aload_n 0, 1) := by decide +kernel
theorem dX11_look__1 : decode cX11_look_ 1 = .ok (.iload_n 1, 1) := by decide +kernel
theorem dX11_look__2 : decode cX11_look_ 2 = .ok (.invokevirtual 487, 3) := by decide +kernel
theorem dX11_look__5 : decode cX11_look_ 5 = .ok (.ifCond .ne 5, 3) := by decide +kernel
theorem dX11_look__8 : decode cX11_look_ 8 = .ok (.iconst (-1), 1) := by decide +kernel
theorem dX11_look__9 : decode cX11_look_ 9 = .ok (.ireturn, 1) := by decide +kernel
theorem dX11_look__10 : decode cX11_look_ 10 = .ok (.aload_n 0, 1) := by decide +kernel
theorem dX11_look__11 : decode cX11_look_ 11 = .ok (.iload_n 1, 1) := by decide +kernel
theorem dX11_look__12 : decode cX11_look_ 12 = .ok (.iconst 2, 1) := by decide +kernel
theorem dX11_look__13 : decode cX11_look_ 13 = .ok (.invokevirtual 440, 3) := by decide +kernel
theorem dX11_look__16 : decode cX11_look_ 16 = .ok (.istore_n 2, 1) := by decide +kernel
theorem dX11_look__17 : decode cX11_look_ 17 = .ok (.iconst (-1), 1) := by decide +kernel
theorem dX11_look__18 : decode cX11_look_ 18 = .ok (.istore_n 3, 1) := by decide +kernel
theorem dX11_look__19 : decode cX11_look_ 19 = .ok (.aload_n 0, 1) := by decide +kernel
theorem dX11_look__20 : decode cX11_look_ 20 = .ok (.invokevirtual 502, 3) := by decide +kernel
theorem dX11_look__23 : decode cX11_look_ 23 = .ok (.iconst 0, 1) := by decide +kernel
theorem dX11_look__24 : decode cX11_look_ 24 = .ok (.istore 4, 2) := by decide +kernel
theorem dX11_look__26 : decode cX11_look_ 26 = .ok (.iload 4, 2) := by decide +kernel
theorem dX11_look__28 : decode cX11_look_ 28 = .ok (.bipush 100, 2) := by decide +kernel
theorem dX11_look__30 : decode cX11_look_ 30 = .ok (.if_icmp .gt 109, 3) := by decide +kernel
theorem dX11_look__33 : decode cX11_look_ 33 = .ok (.iload_n 3, 1) := by decide +kernel
theorem dX11_look__34 : decode cX11_look_ 34 = .ok (.iconst (-1), 1) := by decide +kernel
theorem dX11_look__35 : decode cX11_look_ 35 = .ok (.if_icmp .ne 104, 3) := by decide +kernel
theorem dX11_look__38 : decode cX11_look_ 38 = .ok (.aload_n 0, 1) := by decide +kernel
theorem dX11_look__39 : decode cX11_look_ 39 = .ok (.getfield 127, 3) := by decide +kernel
theorem dX11_look__42 : decode cX11_look_ 42 = .ok (.bipush 16, 2) := by decide +kernel
theorem dX11_look__44 : decode cX11_look_ 44 = .ok (.iconst 4, 1) := by decide +kernel
theorem dX11_look__45 : decode cX11_look_ 45 = .ok (.iload_n 1, 1) := by decide +kernel
theorem dX11_look__46 : decode cX11_look_ 46 = .ok (.imul, 1) := by decide +kernel
theorem dX11_look__47 : decode cX11_look_ 47 = .ok (.iadd, 1) := by decide +kernel
theorem dX11_look__48 : decode cX11_look_ 48 = .ok (.iconst 2, 1) := by decide +kernel
theorem dX11_look__49 : decode cX11_look_ 49 = .ok (.iadd, 1) := by decide +kernel
theorem dX11_look__50 : decode cX11_look_ 50 = .ok (.iload 4, 2) := by decide +kernel
theorem dX11_look__52 : decode cX11_look_ 52 = .ok (.iastore, 1) := by decide +kernel
theorem dX11_look__53 : decode cX11_look_ 53 = .ok (.aload_n 0, 1) := by decide +kernel
theorem dX11_look__54 : decode cX11_look_ 54 = .ok (.bipush 60, 2) := by decide +kernel
theorem dX11_look__56 : decode cX11_look_ 56 = .ok (.invokevirtual 499, 3) := by decide +kernel
theorem dX11_look__59 : decode cX11_look_ 59 = .ok (.istore 5, 2) := by decide +kernel
theorem dX11_look__61 : decode cX11_look_ 61 = .ok (.iconst 1, 1) := by decide +kernel
theorem dX11_look__62 : decode cX11_look_ 62 = .ok (.istore 6, 2) := by decide +kernel
theorem dX11_look__64 : decode cX11_look_ 64 = .ok (.iconst 0, 1) := by decide +kernel
theorem dX11_look__65 : decode cX11_look_ 65 = .ok (.istore 7, 2) := by decide +kernel
theorem dX11_look__67 : decode cX11_look_ 67 = .ok (.iload 7, 2) := by decide +kernel
theorem dX11_look__69 : decode cX11_look_ 69 = .ok (.aload_n 0, 1) := by decide +kernel
theorem dX11_look__70 : decode cX11_look_ 70 = .ok (.invokevirtual 424, 3) := by decide +kernel
theorem dX11_look__73 : decode cX11_look_ 73 = .ok (.if_icmp .ge 48, 3) := by decide +kernel
theorem dX11_look__76 : decode cX11_look_ 76 = .ok (.iload 6, 2) := by decide +kernel
theorem dX11_look__78 : decode cX11_look_ 78 = .ok (.ifCond .eq 34, 3) := by decide +kernel
theorem dX11_look__81 : decode cX11_look_ 81 = .ok (.aload_n 0, 1) := by decide +kernel
theorem dX11_look__82 : decode cX11_look_ 82 = .ok (.getfield 169, 3) := by decide +kernel
theorem dX11_look__85 : decode cX11_look_ 85 = .ok (.iload 7, 2) := by decide +kernel
theorem dX11_look__87 : decode cX11_look_ 87 = .ok (.iaload, 1) := by decide +kernel
theorem dX11_look__88 : decode cX11_look_ 88 = .ok (.iload_n 1, 1) := by decide +kernel
theorem dX11_look__89 : decode cX11_look_ 89 = .ok (.if_icmp .ne 19, 3) := by decide +kernel
theorem dX11_look__92 : decode cX11_look_ 92 = .ok (.aload_n 0, 1) := by decide +kernel
theorem dX11_look__93 : decode cX11_look_ 93 = .ok (.getfield 175, 3) := by decide +kernel
theorem dX11_look__96 : decode cX11_look_ 96 = .ok (.iload 7, 2) := by decide +kernel
theorem dX11_look__98 : decode cX11_look_ 98 = .ok (.iaload, 1) := by decide +kernel
theorem dX11_look__99 : decode cX11_look_ 99 = .ok (.aload_n 0, 1) := by decide +kernel
theorem dX11_look__100 : decode cX11_look_ 100 = .ok (.iload_n 1, 1) := by decide +kernel
theorem dX11_look__101 : decode cX11_look_ 101 = .ok (.iconst 1, 1) := by decide +kernel
theorem dX11_look__102 : decode cX11_look_ 102 = .ok (.invokevirtual 440, 3) := by decide +kernel
theorem dX11_look__105 : decode cX11_look_ 105 = .ok (.if_icmp .lt 7, 3) := by decide +kernel
theorem dX11_look__108 : decode cX11_look_ 108 = .ok (.iconst 1, 1) := by decide +kernel
theorem dX11_look__109 : decode cX11_look_ 109 = .ok (.goto 4, 3) := by decide +kernel
theorem dX11_look__112 : decode cX11_look_ 112 = .ok (.iconst 0, 1) := by decide +kernel
theorem dX11_look__113 : decode cX11_look_ 113 = .ok (.istore 6, 2) := by decide +kernel
theorem dX11_look__115 : decode cX11_look_ 115 = .ok (.iinc 7 1, 3) := by decide +kernel
theorem dX11_look__118 : decode cX11_look_ 118 = .ok (.goto (-51), 3) := by decide +kernel
theorem dX11_look__121 : decode cX11_look_ 121 = .ok (.iload 6, 2) := by decide +kernel
theorem dX11_look__123 : decode cX11_look_ 123 = .ok (.ifCond .eq 6, 3) := by decide +kernel
theorem dX11_look__126 : decode cX11_look_ 126 = .ok (.iload 4, 2) := by decide +kernel
theorem dX11_look__128 : decode cX11_look_ 128 = .ok (.istore_n 3, 1) := by decide +kernel
theorem dX11_look__129 : decode cX11_look_ 129 = .ok (.aload_n 0, 1) := by decide +kernel
theorem dX11_look__130 : decode cX11_look_ 130 = .ok (.invokevirtual 505, 3) := by decide +kernel
theorem dX11_look__133 : decode cX11_look_ 133 = .ok (.iinc 4 1, 3) := by decide +kernel
theorem dX11_look__136 : decode cX11_look_ 136 = .ok (.goto (-110), 3) := by decide +kernel
theorem dX11_look__139 : decode cX11_look_ 139 = .ok (.aload_n 0, 1) := by decide +kernel
theorem dX11_look__140 : decode cX11_look_ 140 = .ok (.getfield 127, 3) := by decide +kernel
theorem dX11_look__143 : decode cX11_look_ 143 = .ok (.bipush 16, 2) := by decide +kernel
theorem dX11_look__145 : decode cX11_look_ 145 = .ok (.iconst 4, 1) := by decide +kernel
theorem dX11_look__146 : decode cX11_look_ 146 = .ok (.iload_n 1, 1) := by decide +kernel
theorem dX11_look__147 : decode cX11_look_ 147 = .ok (.imul, 1) := by decide +kernel
theorem dX11_look__148 : decode cX11_look_ 148 = .ok (.iadd, 1) := by decide +kernel
theorem dX11_look__149 : decode cX11_look_ 149 = .ok (.iconst 2, 1) := by decide +kernel
theorem dX11_look__150 : decode cX11_look_ 150 = .ok (.iadd, 1) := by decide +kernel
theorem dX11_look__151 : decode cX11_look_ 151 = .ok (.iload_n 2, 1) := by decide +kernel
theorem dX11_look__152 : decode cX11_look_ 152 = .ok (.iastore, 1) := by decide +kernel
theorem dX11_look__153 : decode cX11_look_ 153 = .ok (.iload_n 3, 1) := by decide +kernel
theorem dX11_look__154 : decode cX11_look_ 154 = .ok (.ireturn, 1) := by decide +kernel
theorem dX11_crowds_0 : decode cX11_crowds 0 = .ok (.aload_n 0, 1) := by decide +kernel
theorem dX11_crowds_1 : decode cX11_crowds 1 = .ok (.bipush 12, 2) := by decide +kernel
theorem dX11_crowds_3 : decode cX11_crowds 3 = .ok (.putfield 364, 3) := by decide +kernel
theorem dX11_crowds_6 : decode cX11_crowds 6 = .ok (.aload_n 0, 1) := by decide +kernel
theorem dX11_crowds_7 : decode cX11_crowds 7 = .ok (.iload_n 3, 1) := by decide +kernel
theorem dX11_crowds_8 : decode cX11_crowds 8 = .ok (.putfield 367, 3) := by decide +kernel
theorem dX11_crowds_11 : decode cX11_crowds 11 = .ok (.aload_n 0, 1) := by decide +kernel
theorem dX11_crowds_12 : decode cX11_crowds 12 = .ok (.getfield 364, 3) := by decide +kernel
theorem dX11_crowds_15 : decode cX11_crowds 15 = .ok (.istore 4, 2) := by decide +kernel
theorem dX11_crowds_17 : decode cX11_crowds 17 = .ok (.iload 4, 2) := by decide +kernel
theorem dX11_crowds_19 : decode cX11_crowds 19 = .ok (.aload_n 0, 1) := by decide +kernel
theorem dX11_crowds_20 : decode cX11_crowds 20 = .ok (.getfield 364, 3) := by decide +kernel
theorem dX11_crowds_23 : decode cX11_crowds 23 = .ok (.iload_n 3, 1) := by decide +kernel
theorem dX11_crowds_24 : decode cX11_crowds 24 = .ok (.iadd, 1) := by decide +kernel
theorem dX11_crowds_25 : decode cX11_crowds 25 = .ok (.if_icmp .ge 41, 3) := by decide +kernel
theorem dX11_crowds_28 : decode cX11_crowds 28 = .ok (.aload_n 0, 1) := by decide +kernel
theorem dX11_crowds_29 : decode cX11_crowds 29 = .ok (.getfield 166, 3) := by decide +kernel
theorem dX11_crowds_32 : decode cX11_crowds 32 = .ok (.iload 4, 2) := by decide +kernel
theorem dX11_crowds_34 : decode cX11_crowds 34 = .ok (.iload_n 1, 1) := by decide +kernel
theorem dX11_crowds_35 : decode cX11_crowds 35 = .ok (.iastore, 1) := by decide +kernel
theorem dX11_crowds_36 : decode cX11_crowds 36 = .ok (.aload_n 0, 1) := by decide +kernel
theorem dX11_crowds_37 : decode cX11_crowds 37 = .ok (.getfield 169, 3) := by decide +kernel
theorem dX11_crowds_40 : decode cX11_crowds 40 = .ok (.iload 4, 2) := by decide +kernel
theorem dX11_crowds_42 : decode cX11_crowds 42 = .ok (.iload_n 2, 1) := by decide +kernel
theorem dX11_crowds_43 : decode cX11_crowds 43 = .ok (.iastore, 1) := by decide +kernel
theorem dX11_crowds_44 : decode cX11_crowds 44 = .ok (.aload_n 0, 1) := by decide +kernel
theorem dX11_crowds_45 : decode cX11_crowds 45 = .ok (.getfield 172, 3) := by decide +kernel
theorem dX11_crowds_48 : decode cX11_crowds 48 = .ok (.iload 4, 2) := by decide +kernel
theorem dX11_crowds_50 : decode cX11_crowds 50 = .ok (.iconst (-1), 1) := by decide +kernel
theorem dX11_crowds_51 : decode cX11_crowds 51 = .ok (.iastore, 1) := by decide +kernel
theorem dX11_crowds_52 : decode cX11_crowds 52 = .ok (.aload_n 0, 1) := by decide +kernel
theorem dX11_crowds_53 : decode cX11_crowds 53 = .ok (.getfield 175, 3) := by decide +kernel
theorem dX11_crowds_56 : decode cX11_crowds 56 = .ok (.iload 4, 2) := by decide +kernel
theorem dX11_crowds_58 : decode cX11_crowds 58 = .ok (.iconst 0, 1) := by decide +kernel
theorem dX11_crowds_59 : decode cX11_crowds 59 = .ok (.iastore, 1) := by decide +kernel
theorem dX11_crowds_60 : decode cX11_crowds 60 = .ok (.iinc 4 1, 3) := by decide +kernel
theorem dX11_crowds_63 : decode cX11_crowds 63 = .ok (.goto (-46), 3) := by decide +kernel
theorem dX11_crowds_66 : decode cX11_crowds 66 = .ok (.aload_n 0, 1) := by decide +kernel
theorem dX11_crowds_67 : decode cX11_crowds 67 = .ok (.bipush 60, 2) := by decide +kernel
theorem dX11_crowds_69 : decode cX11_crowds 69 = .ok (.invokevirtual 499, 3) := by decide +kernel
theorem dX11_crowds_72 : decode cX11_crowds 72 = .ok (.istore 4, 2) := by decide +kernel
theorem dX11_crowds_74 : decode cX11_crowds 74 = .ok (.aload_n 0, 1) := by decide +kernel
theorem dX11_crowds_75 : decode cX11_crowds 75 = .ok (.aload_n 0, 1) := by decide +kernel
theorem dX11_crowds_76 : decode cX11_crowds 76 = .ok (.getfield 175, 3) := by decide +kernel
theorem dX11_crowds_79 : decode cX11_crowds 79 = .ok (.bipush 12, 2) := by decide +kernel
theorem dX11_crowds_81 : decode cX11_crowds 81 = .ok (.iaload, 1) := by decide +kernel
theorem dX11_crowds_82 : decode cX11_crowds 82 = .ok (.putfield 508, 3) := by decide +kernel
theorem dX11_crowds_85 : decode cX11_crowds 85 = .ok (.aload_n 0, 1) := by decide +kernel
theorem dX11_crowds_86 : decode cX11_crowds 86 = .ok (.aload_n 0, 1) := by decide +kernel
theorem dX11_crowds_87 : decode cX11_crowds 87 = .ok (.bipush 12, 2) := by decide +kernel
theorem dX11_crowds_89 : decode cX11_crowds 89 = .ok (.invokevirtual 475, 3) := by decide +kernel
theorem dX11_crowds_92 : decode cX11_crowds 92 = .ok (.putfield 511, 3) := by decide +kernel
theorem dX11_crowds_95 : decode cX11_crowds 95 = .ok (.aload_n 0, 1) := by decide +kernel
theorem dX11_crowds_96 : decode cX11_crowds 96 = .ok (.iconst 0, 1) := by decide +kernel
theorem dX11_crowds_97 : decode cX11_crowds 97 = .ok (.putfield 364, 3) := by decide +kernel
theorem dX11_crowds_100 : decode cX11_crowds 100 = .ok (.aload_n 0, 1) := by decide +kernel
theorem dX11_crowds_101 : decode cX11_crowds 101 = .ok (.aload_n 0, 1) := by decide +kernel
theorem dX11_crowds_102 : decode cX11_crowds 102 = .ok (.invokevirtual 424, 3) := by decide +kernel
theorem dX11_crowds_105 : decode cX11_crowds 105 = .ok (.putfield 367, 3) := by decide +kernel
theorem dX11_crowds_108 : decode cX11_crowds 108 = .ok (.return_, 1) := by decide +kernel
theorem dX11_isSort_0 : decode cX11_isSort 0 = .ok (.iload_n 1, 1) := by decide +kernel
theorem dX11_isSort_1 : decode cX11_isSort 1 = .ok (.i2l, 1) := by decide +kernel
theorem dX11_isSort_2 : decode cX11_isSort 2 = .ok (.lconst 0, 1) := by decide +kernel
theorem dX11_isSort_3 : decode cX11_isSort 3 = .ok (.aload_n 0, 1) := by decide +kernel
theorem dX11_isSort_4 : decode cX11_isSort 4 = .ok (.getfield 121, 3) := by decide +kernel
theorem dX11_isSort_7 : decode cX11_isSort 7 = .ok (.iconst 3, 1) := by decide +kernel
theorem dX11_isSort_8 : decode cX11_isSort 8 = .ok (.iaload, 1) := by decide +kernel
theorem dX11_isSort_9 : decode cX11_isSort 9 = .ok (.iconst 1, 1) := by decide +kernel
theorem dX11_isSort_10 : decode cX11_isSort 10 = .ok (.isub, 1) := by decide +kernel
theorem dX11_isSort_11 : decode cX11_isSort 11 = .ok (.i2l, 1) := by decide +kernel
theorem dX11_isSort_12 : decode cX11_isSort 12 = .ok (.invokestatic 264, 3) := by decide +kernel
theorem dX11_isSort_15 : decode cX11_isSort 15 = .ok (.ireturn, 1) := by decide +kernel
theorem dX11_size_0 : decode cX11_size 0 = .ok (.aload_n 0, 1) := by decide +kernel
theorem dX11_size_1 : decode cX11_size 1 = .ok (.iload_n 1, 1) := by decide +kernel
theorem dX11_size_2 : decode cX11_size 2 = .ok (.invokevirtual 514, 3) := by decide +kernel
theorem dX11_size_5 : decode cX11_size 5 = .ok (.ifCond .eq 34, 3) := by decide +kernel
theorem dX11_size_8 : decode cX11_size 8 = .ok (.aload_n 0, 1) := by decide +kernel
theorem dX11_size_9 : decode cX11_size 9 = .ok (.iload_n 2, 1) := by decide +kernel
theorem dX11_size_10 : decode cX11_size 10 = .ok (.invokevirtual 487, 3) := by decide +kernel
theorem dX11_size_13 : decode cX11_size 13 = .ok (.ifCond .eq 26, 3) := by decide +kernel
theorem dX11_size_16 : decode cX11_size 16 = .ok (.iload_n 3, 1) := by decide +kernel
theorem dX11_size_17 : decode cX11_size 17 = .ok (.i2l, 1) := by decide +kernel
theorem dX11_size_18 : decode cX11_size 18 = .ok (.lconst 1, 1) := by decide +kernel
theorem dX11_size_19 : decode cX11_size 19 = .ok (.ldc2_w 517, 3) := by decide +kernel
theorem dX11_size_22 : decode cX11_size 22 = .ok (.invokestatic 264, 3) := by decide +kernel
theorem dX11_size_25 : decode cX11_size 25 = .ok (.ifCond .eq 14, 3) := by decide +kernel
theorem dX11_size_28 : decode cX11_size 28 = .ok (.iload 4, 2) := by decide +kernel
theorem dX11_size_30 : decode cX11_size 30 = .ok (.i2l, 1) := by decide +kernel
theorem dX11_size_31 : decode cX11_size 31 = .ok (.lconst 0, 1) := by decide +kernel
theorem dX11_size_32 : decode cX11_size 32 = .ok (.lconst 1, 1) := by decide +kernel
theorem dX11_size_33 : decode cX11_size 33 = .ok (.invokestatic 264, 3) := by decide +kernel
theorem dX11_size_36 : decode cX11_size 36 = .ok (.ifCond .ne 7, 3) := by decide +kernel
theorem dX11_size_39 : decode cX11_size 39 = .ok (.ldc_w 490, 3) := by decide +kernel
theorem dX11_size_42 : decode cX11_size 42 = .ok (.ireturn, 1) := by decide +kernel
theorem dX11_size_43 : decode cX11_size 43 = .ok (.aload_n 0, 1) := by decide +kernel
theorem dX11_size_44 : decode cX11_size 44 = .ok (.iload_n 1, 1) := by decide +kernel
theorem dX11_size_45 : decode cX11_size 45 = .ok (.iload_n 2, 1) := by decide +kernel
theorem dX11_size_46 : decode cX11_size 46 = .ok (.iload_n 3, 1) := by decide +kernel
theorem dX11_size_47 : decode cX11_size 47 = .ok (.invokevirtual 519, 3) := by decide +kernel
theorem dX11_size_50 : decode cX11_size 50 = .ok (.iload 4, 2) := by decide +kernel
theorem dX11_size_52 : decode cX11_size 52 = .ok (.ifCond .ne 10, 3) := by decide +kernel
theorem dX11_size_55 : decode cX11_size 55 = .ok (.aload_n 0, 1) := by decide +kernel
theorem dX11_size_56 : decode cX11_size 56 = .ok (.getfield 508, 3) := by decide +kernel
theorem dX11_size_59 : decode cX11_size 59 = .ok (.goto 7, 3) := by decide +kernel
theorem dX11_size_62 : decode cX11_size 62 = .ok (.aload_n 0, 1) := by decide +kernel
theorem dX11_size_63 : decode cX11_size 63 = .ok (.getfield 511, 3) := by decide +kernel
theorem dX11_size_66 : decode cX11_size 66 = .ok (.ireturn, 1) := by decide +kernel
theorem dX11_many_0 : decode cX11_many 0 = .ok (.aload_n 0, 1) := by decide +kernel
theorem dX11_many_1 : decode cX11_many 1 = .ok (.iload_n 1, 1) := by decide +kernel
theorem dX11_many_2 : decode cX11_many 2 = .ok (.invokevirtual 514, 3) := by decide +kernel
theorem dX11_many_5 : decode cX11_many 5 = .ok (.ifCond .eq 11, 3) := by decide +kernel
theorem dX11_many_8 : decode cX11_many 8 = .ok (.aload_n 0, 1) := by decide +kernel
theorem dX11_many_9 : decode cX11_many 9 = .ok (.iload_n 2, 1) := by decide +kernel
theorem dX11_many_10 : decode cX11_many 10 = .ok (.invokevirtual 487, 3) := by decide +kernel
theorem dX11_many_13 : decode cX11_many 13 = .ok (.ifCond .ne 5, 3) := by decide +kernel
theorem dX11_many_16 : decode cX11_many 16 = .ok (.iconst (-1), 1) := by decide +kernel
theorem dX11_many_17 : decode cX11_many 17 = .ok (.ireturn, 1) := by decide +kernel
theorem dX11_many_18 : decode cX11_many 18 = .ok (.iconst (-1), 1) := by decide +kernel
theorem dX11_many_19 : decode cX11_many 19 = .ok (.istore_n 3, 1) := by decide +kernel
theorem dX11_many_20 : decode cX11_many 20 = .ok (.iconst 0, 1) := by decide +kernel
theorem dX11_many_21 : decode cX11_many 21 = .ok (.istore 4, 2) := by decide +kernel
theorem dX11_many_23 : decode cX11_many 23 = .ok (.iconst 1, 1) := by decide +kernel
theorem dX11_many_24 : decode cX11_many 24 = .ok (.istore 5, 2) := by decide +kernel
theorem dX11_many_26 : decode cX11_many 26 = .ok (.iload 5, 2) := by decide +kernel
theorem dX11_many_28 : decode cX11_many 28 = .ok (.bipush 20, 2) := by decide +kernel
theorem dX11_many_30 : decode cX11_many 30 = .ok (.if_icmp .gt 43, 3) := by decide +kernel
theorem dX11_many_33 : decode cX11_many 33 = .ok (.aload_n 0, 1) := by decide +kernel
theorem dX11_many_34 : decode cX11_many 34 = .ok (.iload_n 1, 1) := by decide +kernel
theorem dX11_many_35 : decode cX11_many 35 = .ok (.iload_n 2, 1) := by decide +kernel
theorem dX11_many_36 : decode cX11_many 36 = .ok (.iload 5, 2) := by decide +kernel
theorem dX11_many_38 : decode cX11_many 38 = .ok (.invokevirtual 519, 3) := by decide +kernel
theorem dX11_many_41 : decode cX11_many 41 = .ok (.iload_n 3, 1) := by decide +kernel
theorem dX11_many_42 : decode cX11_many 42 = .ok (.iconst (-1), 1) := by decide +kernel
theorem dX11_many_43 : decode cX11_many 43 = .ok (.if_icmp .eq 15, 3) := by decide +kernel
theorem dX11_many_46 : decode cX11_many 46 = .ok (.aload_n 0, 1) := by decide +kernel
theorem dX11_many_47 : decode cX11_many 47 = .ok (.getfield 511, 3) := by decide +kernel
theorem dX11_many_50 : decode cX11_many 50 = .ok (.iload 4, 2) := by decide +kernel
theorem dX11_many_52 : decode cX11_many 52 = .ok (.if_icmp .gt 6, 3) := by decide +kernel
theorem dX11_many_55 : decode cX11_many 55 = .ok (.goto 12, 3) := by decide +kernel
theorem dX11_many_58 : decode cX11_many 58 = .ok (.iload 5, 2) := by decide +kernel
theorem dX11_many_60 : decode cX11_many 60 = .ok (.istore_n 3, 1) := by decide +kernel
theorem dX11_many_61 : decode cX11_many 61 = .ok (.aload_n 0, 1) := by decide +kernel
theorem dX11_many_62 : decode cX11_many 62 = .ok (.getfield 511, 3) := by decide +kernel
theorem dX11_many_65 : decode cX11_many 65 = .ok (.istore 4, 2) := by decide +kernel
theorem dX11_many_67 : decode cX11_many 67 = .ok (.iinc 5 1, 3) := by decide +kernel
theorem dX11_many_70 : decode cX11_many 70 = .ok (.goto (-44), 3) := by decide +kernel
theorem dX11_many_73 : decode cX11_many 73 = .ok (.iload_n 3, 1) := by decide +kernel
theorem dX11_many_74 : decode cX11_many 74 = .ok (.ireturn, 1) := by decide +kernel
theorem dX11_under_0 : decode cX11_under 0 = .ok (.aload_n 0, 1) := by decide +kernel
theorem dX11_under_1 : decode cX11_under 1 = .ok (.iload_n 1, 1) := by decide +kernel
theorem dX11_under_2 : decode cX11_under 2 = .ok (.invokevirtual 487, 3) := by decide +kernel
theorem dX11_under_5 : decode cX11_under 5 = .ok (.ifCond .eq 25, 3) := by decide +kernel
theorem dX11_under_8 : decode cX11_under 8 = .ok (.iload_n 2, 1) := by decide +kernel
theorem dX11_under_9 : decode cX11_under 9 = .ok (.i2l, 1) := by decide +kernel
theorem dX11_under_10 : decode cX11_under 10 = .ok (.lconst 0, 1) := by decide +kernel
theorem dX11_under_11 : decode cX11_under 11 = .ok (.ldc2_w 523, 3) := by decide +kernel
theorem dX11_under_14 : decode cX11_under 14 = .ok (.invokestatic 264, 3) := by decide +kernel
theorem dX11_under_17 : decode cX11_under 17 = .ok (.ifCond .eq 13, 3) := by decide +kernel
theorem dX11_under_20 : decode cX11_under 20 = .ok (.iload_n 3, 1) := by decide +kernel
theorem dX11_under_21 : decode cX11_under 21 = .ok (.i2l, 1) := by decide +kernel
theorem dX11_under_22 : decode cX11_under 22 = .ok (.lconst 0, 1) := by decide +kernel
theorem dX11_under_23 : decode cX11_under 23 = .ok (.lconst 1, 1) := by decide +kernel
theorem dX11_under_24 : decode cX11_under 24 = .ok (.invokestatic 264, 3) := by decide +kernel
theorem dX11_under_27 : decode cX11_under 27 = .ok (.ifCond .ne 7, 3) := by decide +kernel
theorem dX11_under_30 : decode cX11_under 30 = .ok (.ldc_w 490, 3) := by decide +kernel
theorem dX11_under_33 : decode cX11_under 33 = .ok (.ireturn, 1) := by decide +kernel
theorem dX11_under_34 : decode cX11_under 34 = .ok (.aload_n 0, 1) := by decide +kernel
theorem dX11_under_35 : decode cX11_under 35 = .ok (.iload_n 1, 1) := by decide +kernel
theorem dX11_under_36 : decode cX11_under 36 = .ok (.iconst 3, 1) := by decide +kernel
theorem dX11_under_37 : decode cX11_under 37 = .ok (.invokevirtual 440, 3) := by decide +kernel
theorem dX11_under_40 : decode cX11_under 40 = .ok (.istore 4, 2) := by decide +kernel
theorem dX11_under_42 : decode cX11_under 42 = .ok (.aload_n 0, 1) := by decide +kernel
theorem dX11_under_43 : decode cX11_under 43 = .ok (.getfield 127, 3) := by decide +kernel
theorem dX11_under_46 : decode cX11_under 46 = .ok (.bipush 16, 2) := by decide +kernel
theorem dX11_under_48 : decode cX11_under 48 = .ok (.iconst 4, 1) := by decide +kernel
theorem dX11_under_49 : decode cX11_under 49 = .ok (.iload_n 1, 1) := by decide +kernel
theorem dX11_under_50 : decode cX11_under 50 = .ok (.imul, 1) := by decide +kernel
theorem dX11_under_51 : decode cX11_under 51 = .ok (.iadd, 1) := by decide +kernel
theorem dX11_under_52 : decode cX11_under 52 = .ok (.iconst 3, 1) := by decide +kernel
theorem dX11_under_53 : decode cX11_under 53 = .ok (.iadd, 1) := by decide +kernel
theorem dX11_under_54 : decode cX11_under 54 = .ok (.iload_n 2, 1) := by decide +kernel
theorem dX11_under_55 : decode cX11_under 55 = .ok (.iastore, 1) := by decide +kernel
theorem dX11_under_56 : decode cX11_under 56 = .ok (.aload_n 0, 1) := by decide +kernel
theorem dX11_under_57 : decode cX11_under 57 = .ok (.invokevirtual 502, 3) := by decide +kernel
theorem dX11_under_60 : decode cX11_under 60 = .ok (.aload_n 0, 1) := by decide +kernel
theorem dX11_under_61 : decode cX11_under 61 = .ok (.bipush 60, 2) := by decide +kernel
theorem dX11_under_63 : decode cX11_under 63 = .ok (.invokevirtual 499, 3) := by decide +kernel
theorem dX11_under_66 : decode cX11_under 66 = .ok (.istore 5, 2) := by decide +kernel
theorem dX11_under_68 : decode cX11_under 68 = .ok (.iload_n 3, 1) := by decide +kernel
theorem dX11_under_69 : decode cX11_under 69 = .ok (.ifCond .ne 10, 3) := by decide +kernel
theorem dX11_under_72 : decode cX11_under 72 = .ok (.aload_n 0, 1) := by decide +kernel
theorem dX11_under_73 : decode cX11_under 73 = .ok (.invokevirtual 491, 3) := by decide +kernel
theorem dX11_under_76 : decode cX11_under 76 = .ok (.goto 4, 3) := by decide +kernel
theorem dX11_under_79 : decode cX11_under 79 = .ok (.iconst 0, 1) := by decide +kernel
theorem dX11_under_80 : decode cX11_under 80 = .ok (.istore 6, 2) := by decide +kernel
theorem dX11_under_82 : decode cX11_under 82 = .ok (.iconst 0, 1) := by decide +kernel
theorem dX11_under_83 : decode cX11_under 83 = .ok (.istore 7, 2) := by decide +kernel
theorem dX11_under_85 : decode cX11_under 85 = .ok (.iload 7, 2) := by decide +kernel
theorem dX11_under_87 : decode cX11_under 87 = .ok (.aload_n 0, 1) := by decide +kernel
theorem dX11_under_88 : decode cX11_under 88 = .ok (.invokevirtual 424, 3) := by decide +kernel
theorem dX11_under_91 : decode cX11_under 91 = .ok (.if_icmp .ge 37, 3) := by decide +kernel
theorem dX11_under_94 : decode cX11_under 94 = .ok (.iload_n 3, 1) := by decide +kernel
theorem dX11_under_95 : decode cX11_under 95 = .ok (.iconst 1, 1) := by decide +kernel
theorem dX11_under_96 : decode cX11_under 96 = .ok (.if_icmp .ne 32, 3) := by decide +kernel
theorem dX11_under_99 : decode cX11_under 99 = .ok (.aload_n 0, 1) := by decide +kernel
theorem dX11_under_100 : decode cX11_under 100 = .ok (.getfield 169, 3) := by decide +kernel
theorem dX11_under_103 : decode cX11_under 103 = .ok (.iload 7, 2) := by decide +kernel
theorem dX11_under_105 : decode cX11_under 105 = .ok (.iaload, 1) := by decide +kernel
theorem dX11_under_106 : decode cX11_under 106 = .ok (.iload_n 1, 1) := by decide +kernel
theorem dX11_under_107 : decode cX11_under 107 = .ok (.if_icmp .ne 15, 3) := by decide +kernel
theorem dX11_under_110 : decode cX11_under 110 = .ok (.iload 6, 2) := by decide +kernel
theorem dX11_under_112 : decode cX11_under 112 = .ok (.aload_n 0, 1) := by decide +kernel
theorem dX11_under_113 : decode cX11_under 113 = .ok (.getfield 175, 3) := by decide +kernel
theorem dX11_under_116 : decode cX11_under 116 = .ok (.iload 7, 2) := by decide +kernel
theorem dX11_under_118 : decode cX11_under 118 = .ok (.iaload, 1) := by decide +kernel
theorem dX11_under_119 : decode cX11_under 119 = .ok (.iadd, 1) := by decide +kernel
theorem dX11_under_120 : decode cX11_under 120 = .ok (.istore 6, 2) := by decide +kernel
theorem dX11_under_122 : decode cX11_under 122 = .ok (.iinc 7 1, 3) := by decide +kernel
theorem dX11_under_125 : decode cX11_under 125 = .ok (.goto (-40), 3) := by decide +kernel
theorem dX11_under_128 : decode cX11_under 128 = .ok (.aload_n 0, 1) := by decide +kernel
theorem dX11_under_129 : decode cX11_under 129 = .ok (.invokevirtual 505, 3) := by decide +kernel
theorem dX11_under_132 : decode cX11_under 132 = .ok (.aload_n 0, 1) := by decide +kernel
theorem dX11_under_133 : decode cX11_under 133 = .ok (.getfield 127, 3) := by decide +kernel
theorem dX11_under_136 : decode cX11_under 136 = .ok (.bipush 16, 2) := by decide +kernel
theorem dX11_under_138 : decode cX11_under 138 = .ok (.iconst 4, 1) := by decide +kernel
theorem dX11_under_139 : decode cX11_under 139 = .ok (.iload_n 1, 1) := by decide +kernel
theorem dX11_under_140 : decode cX11_under 140 = .ok (.imul, 1) := by decide +kernel
theorem dX11_under_141 : decode cX11_under 141 = .ok (.iadd, 1) := by decide +kernel
theorem dX11_under_142 : decode cX11_under 142 = .ok (.iconst 3, 1) := by decide +kernel
theorem dX11_under_143 : decode cX11_under 143 = .ok (.iadd, 1) := by decide +kernel
theorem dX11_under_144 : decode cX11_under 144 = .ok (.iload 4, 2) := by decide +kernel
theorem dX11_under_146 : decode cX11_under 146 = .ok (.iastore, 1) := by decide +kernel
theorem dX11_under_147 : decode cX11_under 147 = .ok (.iload 6, 2) := by decide +kernel
theorem dX11_under_149 : decode cX11_under 149 = .ok (.ireturn, 1) := by decide +kernel
theorem dX11_ends_0 : decode cX11_ends 0 = .ok (.iload_n 1, 1) := by decide +kernel
theorem dX11_ends_1 : decode cX11_ends 1 = .ok (.i2l, 1) := by decide +kernel
theorem dX11_ends_2 : decode cX11_ends 2 = .ok (.lconst 0, 1) := by decide +kernel
theorem dX11_ends_3 : decode cX11_ends 3 = .ok (.ldc2_w 525, 3) := by decide +kernel
theorem dX11_ends_6 : decode cX11_ends 6 = .ok (.invokestatic 264, 3) := by decide +kernel
theorem dX11_ends_9 : decode cX11_ends 9 = .ok (.ifCond .ne 7, 3) := by decide +kernel
theorem dX11_ends_12 : decode cX11_ends 12 = .ok (.ldc_w 490, 3) := by decide +kernel
theorem dX11_ends_15 : decode cX11_ends 15 = .ok (.ireturn, 1) := by decide +kernel
theorem dX11_ends_16 : decode cX11_ends 16 = .ok (.aload_n 0, 1) := by decide +kernel
theorem dX11_ends_17 : decode cX11_ends 17 = .ok (.invokevirtual 502, 3) := by decide +kernel
theorem dX11_ends_20 : decode cX11_ends 20 = .ok (.iconst 0, 1) := by decide +kernel
theorem dX11_ends_21 : decode cX11_ends 21 = .ok (.istore_n 2, 1) := by decide +kernel
theorem dX11_ends_22 : decode cX11_ends 22 = .ok (.iload_n 2, 1) := by decide +kernel
theorem dX11_ends_23 : decode cX11_ends 23 = .ok (.iconst 2, 1) := by decide +kernel
theorem dX11_ends_24 : decode cX11_ends 24 = .ok (.if_icmp .ge 139, 3) := by decide +kernel
theorem dX11_ends_27 : decode cX11_ends 27 = .ok (.iconst 0, 1) := by decide +kernel
theorem dX11_ends_28 : decode cX11_ends 28 = .ok (.istore_n 3, 1) := by decide +kernel
theorem dX11_ends_29 : decode cX11_ends 29 = .ok (.iload_n 3, 1) := by decide +kernel
theorem dX11_ends_30 : decode cX11_ends 30 = .ok (.aload_n 0, 1) := by decide +kernel
theorem dX11_ends_31 : decode cX11_ends 31 = .ok (.invokevirtual 424, 3) := by decide +kernel
theorem dX11_ends_34 : decode cX11_ends 34 = .ok (.if_icmp .ge 27, 3) := by decide +kernel
theorem dX11_ends_37 : decode cX11_ends 37 = .ok (.aload_n 0, 1) := by decide +kernel
theorem dX11_ends_38 : decode cX11_ends 38 = .ok (.getfield 175, 3) := by decide +kernel
theorem dX11_ends_41 : decode cX11_ends 41 = .ok (.iload_n 3, 1) := by decide +kernel
theorem dX11_ends_42 : decode cX11_ends 42 = .ok (.iload_n 2, 1) := by decide +kernel
theorem dX11_ends_43 : decode cX11_ends 43 = .ok (.ifCond .ne 7, 3) := by decide +kernel
theorem dX11_ends_46 : decode cX11_ends 46 = .ok (.iconst 0, 1) := by decide +kernel
theorem dX11_ends_47 : decode cX11_ends 47 = .ok (.goto 7, 3) := by decide +kernel
theorem dX11_ends_50 : decode cX11_ends 50 = .ok (.aload_n 0, 1) := by decide +kernel
theorem dX11_ends_51 : decode cX11_ends 51 = .ok (.getfield 142, 3) := by decide +kernel
theorem dX11_ends_54 : decode cX11_ends 54 = .ok (.iastore, 1) := by decide +kernel
theorem dX11_ends_55 : decode cX11_ends 55 = .ok (.iinc 3 1, 3) := by decide +kernel
theorem dX11_ends_58 : decode cX11_ends 58 = .ok (.goto (-29), 3) := by decide +kernel
theorem dX11_ends_61 : decode cX11_ends 61 = .ok (.aload_n 0, 1) := by decide +kernel
theorem dX11_ends_62 : decode cX11_ends 62 = .ok (.bipush 60, 2) := by decide +kernel
theorem dX11_ends_64 : decode cX11_ends 64 = .ok (.invokevirtual 499, 3) := by decide +kernel
theorem dX11_ends_67 : decode cX11_ends 67 = .ok (.istore_n 3, 1) := by decide +kernel
theorem dX11_ends_68 : decode cX11_ends 68 = .ok (.aload_n 0, 1) := by decide +kernel
theorem dX11_ends_69 : decode cX11_ends 69 = .ok (.getfield 199, 3) := by decide +kernel
theorem dX11_ends_72 : decode cX11_ends 72 = .ok (.iload_n 2, 1) := by decide +kernel
theorem dX11_ends_73 : decode cX11_ends 73 = .ok (.iconst 0, 1) := by decide +kernel
theorem dX11_ends_74 : decode cX11_ends 74 = .ok (.iastore, 1) := by decide +kernel
theorem dX11_ends_75 : decode cX11_ends 75 = .ok (.aload_n 0, 1) := by decide +kernel
theorem dX11_ends_76 : decode cX11_ends 76 = .ok (.getfield 199, 3) := by decide +kernel
theorem dX11_ends_79 : decode cX11_ends 79 = .ok (.iconst 2, 1) := by decide +kernel
theorem dX11_ends_80 : decode cX11_ends 80 = .ok (.iload_n 2, 1) := by decide +kernel
theorem dX11_ends_81 : decode cX11_ends 81 = .ok (.iadd, 1) := by decide +kernel
theorem dX11_ends_82 : decode cX11_ends 82 = .ok (.aload_n 0, 1) := by decide +kernel
theorem dX11_ends_83 : decode cX11_ends 83 = .ok (.invokevirtual 491, 3) := by decide +kernel
theorem dX11_ends_86 : decode cX11_ends 86 = .ok (.iastore, 1) := by decide +kernel
theorem dX11_ends_87 : decode cX11_ends 87 = .ok (.iconst 0, 1) := by decide +kernel
theorem dX11_ends_88 : decode cX11_ends 88 = .ok (.istore 4, 2) := by decide +kernel
theorem dX11_ends_90 : decode cX11_ends 90 = .ok (.iload 4, 2) := by decide +kernel
theorem dX11_ends_92 : decode cX11_ends 92 = .ok (.aload_n 0, 1) := by decide +kernel
theorem dX11_ends_93 : decode cX11_ends 93 = .ok (.invokevirtual 424, 3) := by decide +kernel
theorem dX11_ends_96 : decode cX11_ends 96 = .ok (.if_icmp .ge 25, 3) := by decide +kernel
theorem dX11_ends_99 : decode cX11_ends 99 = .ok (.aload_n 0, 1) := by decide +kernel
theorem dX11_ends_100 : decode cX11_ends 100 = .ok (.getfield 199, 3) := by decide +kernel
theorem dX11_ends_103 : decode cX11_ends 103 = .ok (.iload_n 2, 1) := by decide +kernel
theorem dX11_ends_104 : decode cX11_ends 104 = .ok (.dup2, 1) := by decide +kernel
theorem dX11_ends_105 : decode cX11_ends 105 = .ok (.iaload, 1) := by decide +kernel
theorem dX11_ends_106 : decode cX11_ends 106 = .ok (.aload_n 0, 1) := by decide +kernel
theorem dX11_ends_107 : decode cX11_ends 107 = .ok (.getfield 175, 3) := by decide +kernel
theorem dX11_ends_110 : decode cX11_ends 110 = .ok (.iload 4, 2) := by decide +kernel
theorem dX11_ends_112 : decode cX11_ends 112 = .ok (.iaload, 1) := by decide +kernel
theorem dX11_ends_113 : decode cX11_ends 113 = .ok (.iadd, 1) := by decide +kernel
theorem dX11_ends_114 : decode cX11_ends 114 = .ok (.iastore, 1) := by decide +kernel
theorem dX11_ends_115 : decode cX11_ends 115 = .ok (.iinc 4 1, 3) := by decide +kernel
theorem dX11_ends_118 : decode cX11_ends 118 = .ok (.goto (-28), 3) := by decide +kernel
theorem dX11_ends_121 : decode cX11_ends 121 = .ok (.iconst 0, 1) := by decide +kernel
theorem dX11_ends_122 : decode cX11_ends 122 = .ok (.istore 4, 2) := by decide +kernel
theorem dX11_ends_124 : decode cX11_ends 124 = .ok (.iload 4, 2) := by decide +kernel
theorem dX11_ends_126 : decode cX11_ends 126 = .ok (.aload_n 0, 1) := by decide +kernel
theorem dX11_ends_127 : decode cX11_ends 127 = .ok (.invokevirtual 424, 3) := by decide +kernel
theorem dX11_ends_130 : decode cX11_ends 130 = .ok (.if_icmp .ge 27, 3) := by decide +kernel
theorem dX11_ends_133 : decode cX11_ends 133 = .ok (.iload_n 2, 1) := by decide +kernel
theorem dX11_ends_134 : decode cX11_ends 134 = .ok (.ifCond .ne 23, 3) := by decide +kernel
theorem dX11_ends_137 : decode cX11_ends 137 = .ok (.aload_n 0, 1) := by decide +kernel
theorem dX11_ends_138 : decode cX11_ends 138 = .ok (.getfield 196, 3) := by decide +kernel
theorem dX11_ends_141 : decode cX11_ends 141 = .ok (.iload 4, 2) := by decide +kernel
theorem dX11_ends_143 : decode cX11_ends 143 = .ok (.aload_n 0, 1) := by decide +kernel
theorem dX11_ends_144 : decode cX11_ends 144 = .ok (.getfield 175, 3) := by decide +kernel
theorem dX11_ends_147 : decode cX11_ends 147 = .ok (.iload 4, 2) := by decide +kernel
theorem dX11_ends_149 : decode cX11_ends 149 = .ok (.iaload, 1) := by decide +kernel
theorem dX11_ends_150 : decode cX11_ends 150 = .ok (.iastore, 1) := by decide +kernel
theorem dX11_ends_151 : decode cX11_ends 151 = .ok (.iinc 4 1, 3) := by decide +kernel
theorem dX11_ends_154 : decode cX11_ends 154 = .ok (.goto (-30), 3) := by decide +kernel
theorem dX11_ends_157 : decode cX11_ends 157 = .ok (.iinc 2 1, 3) := by decide +kernel
theorem dX11_ends_160 : decode cX11_ends 160 = .ok (.goto (-138), 3) := by decide +kernel
theorem dX11_ends_163 : decode cX11_ends 163 = .ok (.aload_n 0, 1) := by decide +kernel
theorem dX11_ends_164 : decode cX11_ends 164 = .ok (.getfield 199, 3) := by decide +kernel
theorem dX11_ends_167 : decode cX11_ends 167 = .ok (.iconst 4, 1) := by decide +kernel
theorem dX11_ends_168 : decode cX11_ends 168 = .ok (.iconst 1, 1) := by decide +kernel
theorem dX11_ends_169 : decode cX11_ends 169 = .ok (.iastore, 1) := by decide +kernel
theorem dX11_ends_170 : decode cX11_ends 170 = .ok (.iconst 0, 1) := by decide +kernel
theorem dX11_ends_171 : decode cX11_ends 171 = .ok (.istore_n 2, 1) := by decide +kernel
theorem dX11_ends_172 : decode cX11_ends 172 = .ok (.iload_n 2, 1) := by decide +kernel
theorem dX11_ends_173 : decode cX11_ends 173 = .ok (.aload_n 0, 1) := by decide +kernel
theorem dX11_ends_174 : decode cX11_ends 174 = .ok (.invokevirtual 424, 3) := by decide +kernel
theorem dX11_ends_177 : decode cX11_ends 177 = .ok (.if_icmp .ge 31, 3) := by decide +kernel
theorem dX11_ends_180 : decode cX11_ends 180 = .ok (.aload_n 0, 1) := by decide +kernel
theorem dX11_ends_181 : decode cX11_ends 181 = .ok (.getfield 196, 3) := by decide +kernel
theorem dX11_ends_184 : decode cX11_ends 184 = .ok (.iload_n 2, 1) := by decide +kernel
theorem dX11_ends_185 : decode cX11_ends 185 = .ok (.iaload, 1) := by decide +kernel
theorem dX11_ends_186 : decode cX11_ends 186 = .ok (.aload_n 0, 1) := by decide +kernel
theorem dX11_ends_187 : decode cX11_ends 187 = .ok (.getfield 175, 3) := by decide +kernel
theorem dX11_ends_190 : decode cX11_ends 190 = .ok (.iload_n 2, 1) := by decide +kernel
theorem dX11_ends_191 : decode cX11_ends 191 = .ok (.iaload, 1) := by decide +kernel
theorem dX11_ends_192 : decode cX11_ends 192 = .ok (.if_icmp .eq 10, 3) := by decide +kernel
theorem dX11_ends_195 : decode cX11_ends 195 = .ok (.aload_n 0, 1) := by decide +kernel
theorem dX11_ends_196 : decode cX11_ends 196 = .ok (.getfield 199, 3) := by decide +kernel
theorem dX11_ends_199 : decode cX11_ends 199 = .ok (.iconst 4, 1) := by decide +kernel
theorem dX11_ends_200 : decode cX11_ends 200 = .ok (.iconst 0, 1) := by decide +kernel
theorem dX11_ends_201 : decode cX11_ends 201 = .ok (.iastore, 1) := by decide +kernel
theorem dX11_ends_202 : decode cX11_ends 202 = .ok (.iinc 2 1, 3) := by decide +kernel
theorem dX11_ends_205 : decode cX11_ends 205 = .ok (.goto (-33), 3) := by decide +kernel
theorem dX11_ends_208 : decode cX11_ends 208 = .ok (.aload_n 0, 1) := by decide +kernel
theorem dX11_ends_209 : decode cX11_ends 209 = .ok (.invokevirtual 505, 3) := by decide +kernel
theorem dX11_ends_212 : decode cX11_ends 212 = .ok (.aload_n 0, 1) := by decide +kernel
theorem dX11_ends_213 : decode cX11_ends 213 = .ok (.getfield 199, 3) := by decide +kernel
theorem dX11_ends_216 : decode cX11_ends 216 = .ok (.iload_n 1, 1) := by decide +kernel
theorem dX11_ends_217 : decode cX11_ends 217 = .ok (.iaload, 1) := by decide +kernel
theorem dX11_ends_218 : decode cX11_ends 218 = .ok (.ireturn, 1) := by decide +kernel
theorem dX11_alike_0 : decode cX11_alike 0 = .ok (.iload_n 1, 1) := by decide +kernel
theorem dX11_alike_1 : decode cX11_alike 1 = .ok (.i2l, 1) := by decide +kernel
theorem dX11_alike_2 : decode cX11_alike 2 = .ok (.lconst 0, 1) := by decide +kernel
theorem dX11_alike_3 : decode cX11_alike 3 = .ok (.lconst 1, 1) := by decide +kernel
theorem dX11_alike_4 : decode cX11_alike 4 = .ok (.invokestatic 264, 3) := by decide +kernel
theorem dX11_alike_7 : decode cX11_alike 7 = .ok (.ifCond .ne 7, 3) := by decide +kernel
theorem dX11_alike_10 : decode cX11_alike 10 = .ok (.ldc_w 490, 3) := by decide +kernel
theorem dX11_alike_13 : decode cX11_alike 13 = .ok (.ireturn, 1) := by decide +kernel
theorem dX11_alike_14 : decode cX11_alike 14 = .ok (.iconst (-1), 1) := by decide +kernel
theorem dX11_alike_15 : decode cX11_alike 15 = .ok (.istore_n 2, 1) := by decide +kernel
theorem dX11_alike_16 : decode cX11_alike 16 = .ok (.iconst 0, 1) := by decide +kernel
theorem dX11_alike_17 : decode cX11_alike 17 = .ok (.istore_n 3, 1) := by decide +kernel
theorem dX11_alike_18 : decode cX11_alike 18 = .ok (.aload_n 0, 1) := by decide +kernel
theorem dX11_alike_19 : decode cX11_alike 19 = .ok (.invokevirtual 502, 3) := by decide +kernel
theorem dX11_alike_22 : decode cX11_alike 22 = .ok (.iconst 0, 1) := by decide +kernel
theorem dX11_alike_23 : decode cX11_alike 23 = .ok (.istore 4, 2) := by decide +kernel
theorem dX11_alike_25 : decode cX11_alike 25 = .ok (.iload 4, 2) := by decide +kernel
theorem dX11_alike_27 : decode cX11_alike 27 = .ok (.aload_n 0, 1) := by decide +kernel
theorem dX11_alike_28 : decode cX11_alike 28 = .ok (.getfield 142, 3) := by decide +kernel
theorem dX11_alike_31 : decode cX11_alike 31 = .ok (.if_icmp .gt 62, 3) := by decide +kernel
theorem dX11_alike_34 : decode cX11_alike 34 = .ok (.iconst 0, 1) := by decide +kernel
theorem dX11_alike_35 : decode cX11_alike 35 = .ok (.istore 5, 2) := by decide +kernel
theorem dX11_alike_37 : decode cX11_alike 37 = .ok (.iload 5, 2) := by decide +kernel
theorem dX11_alike_39 : decode cX11_alike 39 = .ok (.aload_n 0, 1) := by decide +kernel
theorem dX11_alike_40 : decode cX11_alike 40 = .ok (.invokevirtual 424, 3) := by decide +kernel
theorem dX11_alike_43 : decode cX11_alike 43 = .ok (.if_icmp .ge 18, 3) := by decide +kernel
theorem dX11_alike_46 : decode cX11_alike 46 = .ok (.aload_n 0, 1) := by decide +kernel
theorem dX11_alike_47 : decode cX11_alike 47 = .ok (.getfield 175, 3) := by decide +kernel
theorem dX11_alike_50 : decode cX11_alike 50 = .ok (.iload 5, 2) := by decide +kernel
theorem dX11_alike_52 : decode cX11_alike 52 = .ok (.iload 4, 2) := by decide +kernel
theorem dX11_alike_54 : decode cX11_alike 54 = .ok (.iastore, 1) := by decide +kernel
theorem dX11_alike_55 : decode cX11_alike 55 = .ok (.iinc 5 1, 3) := by decide +kernel
theorem dX11_alike_58 : decode cX11_alike 58 = .ok (.goto (-21), 3) := by decide +kernel
theorem dX11_alike_61 : decode cX11_alike 61 = .ok (.aload_n 0, 1) := by decide +kernel
theorem dX11_alike_62 : decode cX11_alike 62 = .ok (.invokevirtual 491, 3) := by decide +kernel
theorem dX11_alike_65 : decode cX11_alike 65 = .ok (.istore 5, 2) := by decide +kernel
theorem dX11_alike_67 : decode cX11_alike 67 = .ok (.iload_n 2, 1) := by decide +kernel
theorem dX11_alike_68 : decode cX11_alike 68 = .ok (.iconst (-1), 1) := by decide +kernel
theorem dX11_alike_69 : decode cX11_alike 69 = .ok (.if_icmp .eq 12, 3) := by decide +kernel
theorem dX11_alike_72 : decode cX11_alike 72 = .ok (.iload 5, 2) := by decide +kernel
theorem dX11_alike_74 : decode cX11_alike 74 = .ok (.iload_n 3, 1) := by decide +kernel
theorem dX11_alike_75 : decode cX11_alike 75 = .ok (.if_icmp .gt 6, 3) := by decide +kernel
theorem dX11_alike_78 : decode cX11_alike 78 = .ok (.goto 9, 3) := by decide +kernel
theorem dX11_alike_81 : decode cX11_alike 81 = .ok (.iload 4, 2) := by decide +kernel
theorem dX11_alike_83 : decode cX11_alike 83 = .ok (.istore_n 2, 1) := by decide +kernel
theorem dX11_alike_84 : decode cX11_alike 84 = .ok (.iload 5, 2) := by decide +kernel
theorem dX11_alike_86 : decode cX11_alike 86 = .ok (.istore_n 3, 1) := by decide +kernel
theorem dX11_alike_87 : decode cX11_alike 87 = .ok (.iinc 4 1, 3) := by decide +kernel
theorem dX11_alike_90 : decode cX11_alike 90 = .ok (.goto (-65), 3) := by decide +kernel
theorem dX11_alike_93 : decode cX11_alike 93 = .ok (.aload_n 0, 1) := by decide +kernel
theorem dX11_alike_94 : decode cX11_alike 94 = .ok (.invokevirtual 505, 3) := by decide +kernel
theorem dX11_alike_97 : decode cX11_alike 97 = .ok (.iload_n 1, 1) := by decide +kernel
theorem dX11_alike_98 : decode cX11_alike 98 = .ok (.ifCond .ne 7, 3) := by decide +kernel
theorem dX11_alike_101 : decode cX11_alike 101 = .ok (.iload_n 2, 1) := by decide +kernel
theorem dX11_alike_102 : decode cX11_alike 102 = .ok (.goto 4, 3) := by decide +kernel
theorem dX11_alike_105 : decode cX11_alike 105 = .ok (.iload_n 3, 1) := by decide +kernel
theorem dX11_alike_106 : decode cX11_alike 106 = .ok (.ireturn, 1) := by decide +kernel
theorem dX11_pair_0 : decode cX11_pair 0 = .ok (.iload_n 1, 1) := by decide +kernel
theorem dX11_pair_1 : decode cX11_pair 1 = .ok (.i2l, 1) := by decide +kernel
theorem dX11_pair_2 : decode cX11_pair 2 = .ok (.lconst 0, 1) := by decide +kernel
theorem dX11_pair_3 : decode cX11_pair 3 = .ok (.aload_n 0, 1) := by decide +kernel
theorem dX11_pair_4 : decode cX11_pair 4 = .ok (.getfield 355, 3) := by decide +kernel
theorem dX11_pair_7 : decode cX11_pair 7 = .ok (.iconst 1, 1) := by decide +kernel
theorem dX11_pair_8 : decode cX11_pair 8 = .ok (.isub, 1) := by decide +kernel
theorem dX11_pair_9 : decode cX11_pair 9 = .ok (.i2l, 1) := by decide +kernel
theorem dX11_pair_10 : decode cX11_pair 10 = .ok (.invokestatic 264, 3) := by decide +kernel
theorem dX11_pair_13 : decode cX11_pair 13 = .ok (.ifCond .ne 5, 3) := by decide +kernel
theorem dX11_pair_16 : decode cX11_pair 16 = .ok (.iconst (-1), 1) := by decide +kernel
theorem dX11_pair_17 : decode cX11_pair 17 = .ok (.ireturn, 1) := by decide +kernel
theorem dX11_pair_18 : decode cX11_pair 18 = .ok (.aload_n 0, 1) := by decide +kernel
theorem dX11_pair_19 : decode cX11_pair 19 = .ok (.getfield 190, 3) := by decide +kernel
theorem dX11_pair_22 : decode cX11_pair 22 = .ok (.iload_n 1, 1) := by decide +kernel
theorem dX11_pair_23 : decode cX11_pair 23 = .ok (.iaload, 1) := by decide +kernel
theorem dX11_pair_24 : decode cX11_pair 24 = .ok (.istore_n 3, 1) := by decide +kernel
theorem dX11_pair_25 : decode cX11_pair 25 = .ok (.aload_n 0, 1) := by decide +kernel
theorem dX11_pair_26 : decode cX11_pair 26 = .ok (.getfield 172, 3) := by decide +kernel
theorem dX11_pair_29 : decode cX11_pair 29 = .ok (.iload_n 3, 1) := by decide +kernel
theorem dX11_pair_30 : decode cX11_pair 30 = .ok (.iaload, 1) := by decide +kernel
theorem dX11_pair_31 : decode cX11_pair 31 = .ok (.istore 4, 2) := by decide +kernel
theorem dX11_pair_33 : decode cX11_pair 33 = .ok (.iload_n 2, 1) := by decide +kernel
theorem dX11_pair_34 : decode cX11_pair 34 = .ok (.tableswitch 82 0 3 #[30, 32, 35, 50], 30) := by decide +kernel
theorem dX11_pair_64 : decode cX11_pair 64 = .ok (.iload_n 3, 1) := by decide +kernel
theorem dX11_pair_65 : decode cX11_pair 65 = .ok (.ireturn, 1) := by decide +kernel
theorem dX11_pair_66 : decode cX11_pair 66 = .ok (.iload 4, 2) := by decide +kernel
theorem dX11_pair_68 : decode cX11_pair 68 = .ok (.ireturn, 1) := by decide +kernel
theorem dX11_pair_69 : decode cX11_pair 69 = .ok (.aload_n 0, 1) := by decide +kernel
theorem dX11_pair_70 : decode cX11_pair 70 = .ok (.getfield 181, 3) := by decide +kernel
theorem dX11_pair_73 : decode cX11_pair 73 = .ok (.iload_n 3, 1) := by decide +kernel
theorem dX11_pair_74 : decode cX11_pair 74 = .ok (.iaload, 1) := by decide +kernel
theorem dX11_pair_75 : decode cX11_pair 75 = .ok (.aload_n 0, 1) := by decide +kernel
theorem dX11_pair_76 : decode cX11_pair 76 = .ok (.getfield 181, 3) := by decide +kernel
theorem dX11_pair_79 : decode cX11_pair 79 = .ok (.iload 4, 2) := by decide +kernel
theorem dX11_pair_81 : decode cX11_pair 81 = .ok (.iaload, 1) := by decide +kernel
theorem dX11_pair_82 : decode cX11_pair 82 = .ok (.iadd, 1) := by decide +kernel
theorem dX11_pair_83 : decode cX11_pair 83 = .ok (.ireturn, 1) := by decide +kernel
theorem dX11_pair_84 : decode cX11_pair 84 = .ok (.aload_n 0, 1) := by decide +kernel
theorem dX11_pair_85 : decode cX11_pair 85 = .ok (.getfield 169, 3) := by decide +kernel
theorem dX11_pair_88 : decode cX11_pair 88 = .ok (.iload_n 3, 1) := by decide +kernel
theorem dX11_pair_89 : decode cX11_pair 89 = .ok (.iaload, 1) := by decide +kernel
theorem dX11_pair_90 : decode cX11_pair 90 = .ok (.iconst (-1), 1) := by decide +kernel
theorem dX11_pair_91 : decode cX11_pair 91 = .ok (.if_icmp .eq 23, 3) := by decide +kernel
theorem dX11_pair_94 : decode cX11_pair 94 = .ok (.aload_n 0, 1) := by decide +kernel
theorem dX11_pair_95 : decode cX11_pair 95 = .ok (.getfield 169, 3) := by decide +kernel
theorem dX11_pair_98 : decode cX11_pair 98 = .ok (.iload_n 3, 1) := by decide +kernel
theorem dX11_pair_99 : decode cX11_pair 99 = .ok (.iaload, 1) := by decide +kernel
theorem dX11_pair_100 : decode cX11_pair 100 = .ok (.aload_n 0, 1) := by decide +kernel
theorem dX11_pair_101 : decode cX11_pair 101 = .ok (.getfield 169, 3) := by decide +kernel
theorem dX11_pair_104 : decode cX11_pair 104 = .ok (.iload 4, 2) := by decide +kernel
theorem dX11_pair_106 : decode cX11_pair 106 = .ok (.iaload, 1) := by decide +kernel
theorem dX11_pair_107 : decode cX11_pair 107 = .ok (.if_icmp .ne 7, 3) := by decide +kernel
theorem dX11_pair_110 : decode cX11_pair 110 = .ok (.iconst 1, 1) := by decide +kernel
theorem dX11_pair_111 : decode cX11_pair 111 = .ok (.goto 4, 3) := by decide +kernel
theorem dX11_pair_114 : decode cX11_pair 114 = .ok (.iconst 0, 1) := by decide +kernel
theorem dX11_pair_115 : decode cX11_pair 115 = .ok (.ireturn, 1) := by decide +kernel
theorem dX11_pair_116 : decode cX11_pair 116 = .ok (.iconst (-1), 1) := by decide +kernel
theorem dX11_pair_117 : decode cX11_pair 117 = .ok (.ireturn, 1) := by decide +kernel
theorem dX11_worthIn_0 : decode cX11_worthIn 0 = .ok (.aload_n 0, 1) := by decide +kernel
theorem dX11_worthIn_1 : decode cX11_worthIn 1 = .ok (.getfield 169, 3) := by decide +kernel
theorem dX11_worthIn_4 : decode cX11_worthIn 4 = .ok (.iload_n 1, 1) := by decide +kernel
theorem dX11_worthIn_5 : decode cX11_worthIn 5 = .ok (.iaload, 1) := by decide +kernel
theorem dX11_worthIn_6 : decode cX11_worthIn 6 = .ok (.istore_n 3, 1) := by decide +kernel
theorem dX11_worthIn_7 : decode cX11_worthIn 7 = .ok (.aload_n 0, 1) := by decide +kernel
theorem dX11_worthIn_8 : decode cX11_worthIn 8 = .ok (.getfield 169, 3) := by decide +kernel
theorem dX11_worthIn_11 : decode cX11_worthIn 11 = .ok (.iload_n 1, 1) := by decide +kernel
theorem dX11_worthIn_12 : decode cX11_worthIn 12 = .ok (.iload_n 2, 1) := by decide +kernel
theorem dX11_worthIn_13 : decode cX11_worthIn 13 = .ok (.iastore, 1) := by decide +kernel
theorem dX11_worthIn_14 : decode cX11_worthIn 14 = .ok (.aload_n 0, 1) := by decide +kernel
theorem dX11_worthIn_15 : decode cX11_worthIn 15 = .ok (.iload_n 1, 1) := by decide +kernel
theorem dX11_worthIn_16 : decode cX11_worthIn 16 = .ok (.invokevirtual 475, 3) := by decide +kernel
theorem dX11_worthIn_19 : decode cX11_worthIn 19 = .ok (.istore 4, 2) := by decide +kernel
theorem dX11_worthIn_21 : decode cX11_worthIn 21 = .ok (.aload_n 0, 1) := by decide +kernel
theorem dX11_worthIn_22 : decode cX11_worthIn 22 = .ok (.getfield 169, 3) := by decide +kernel
theorem dX11_worthIn_25 : decode cX11_worthIn 25 = .ok (.iload_n 1, 1) := by decide +kernel
theorem dX11_worthIn_26 : decode cX11_worthIn 26 = .ok (.iload_n 3, 1) := by decide +kernel
theorem dX11_worthIn_27 : decode cX11_worthIn 27 = .ok (.iastore, 1) := by decide +kernel
theorem dX11_worthIn_28 : decode cX11_worthIn 28 = .ok (.iload 4, 2) := by decide +kernel
theorem dX11_worthIn_30 : decode cX11_worthIn 30 = .ok (.ireturn, 1) := by decide +kernel
theorem dX11_would_0 : decode cX11_would 0 = .ok (.aload_n 0, 1) := by decide +kernel
theorem dX11_would_1 : decode cX11_would 1 = .ok (.iload_n 1, 1) := by decide +kernel
theorem dX11_would_2 : decode cX11_would 2 = .ok (.invokevirtual 481, 3) := by decide +kernel
theorem dX11_would_5 : decode cX11_would 5 = .ok (.ifCond .eq 25, 3) := by decide +kernel
theorem dX11_would_8 : decode cX11_would 8 = .ok (.iload_n 2, 1) := by decide +kernel
theorem dX11_would_9 : decode cX11_would 9 = .ok (.iconst (-1), 1) := by decide +kernel
theorem dX11_would_10 : decode cX11_would 10 = .ok (.if_icmp .eq 11, 3) := by decide +kernel
theorem dX11_would_13 : decode cX11_would 13 = .ok (.aload_n 0, 1) := by decide +kernel
theorem dX11_would_14 : decode cX11_would 14 = .ok (.iload_n 2, 1) := by decide +kernel
theorem dX11_would_15 : decode cX11_would 15 = .ok (.invokevirtual 487, 3) := by decide +kernel
theorem dX11_would_18 : decode cX11_would 18 = .ok (.ifCond .eq 12, 3) := by decide +kernel
theorem dX11_would_21 : decode cX11_would 21 = .ok (.aload_n 0, 1) := by decide +kernel
theorem dX11_would_22 : decode cX11_would 22 = .ok (.iload_n 1, 1) := by decide +kernel
theorem dX11_would_23 : decode cX11_would 23 = .ok (.iload_n 2, 1) := by decide +kernel
theorem dX11_would_24 : decode cX11_would 24 = .ok (.invokevirtual 527, 3) := by decide +kernel
theorem dX11_would_27 : decode cX11_would 27 = .ok (.goto 6, 3) := by decide +kernel
theorem dX11_would_30 : decode cX11_would 30 = .ok (.ldc_w 490, 3) := by decide +kernel
theorem dX11_would_33 : decode cX11_would 33 = .ok (.ireturn, 1) := by decide +kernel
theorem dX11_wishOf_0 : decode cX11_wishOf 0 = .ok (.aload_n 0, 1) := by decide +kernel
theorem dX11_wishOf_1 : decode cX11_wishOf 1 = .ok (.getfield 169, 3) := by decide +kernel
theorem dX11_wishOf_4 : decode cX11_wishOf 4 = .ok (.iload_n 1, 1) := by decide +kernel
theorem dX11_wishOf_5 : decode cX11_wishOf 5 = .ok (.iaload, 1) := by decide +kernel
theorem dX11_wishOf_6 : decode cX11_wishOf 6 = .ok (.istore_n 2, 1) := by decide +kernel
theorem dX11_wishOf_7 : decode cX11_wishOf 7 = .ok (.aload_n 0, 1) := by decide +kernel
theorem dX11_wishOf_8 : decode cX11_wishOf 8 = .ok (.iload_n 1, 1) := by decide +kernel
theorem dX11_wishOf_9 : decode cX11_wishOf 9 = .ok (.invokevirtual 475, 3) := by decide +kernel
theorem dX11_wishOf_12 : decode cX11_wishOf 12 = .ok (.istore_n 3, 1) := by decide +kernel
theorem dX11_wishOf_13 : decode cX11_wishOf 13 = .ok (.iconst (-1), 1) := by decide +kernel
theorem dX11_wishOf_14 : decode cX11_wishOf 14 = .ok (.istore 4, 2) := by decide +kernel
theorem dX11_wishOf_16 : decode cX11_wishOf 16 = .ok (.iload 4, 2) := by decide +kernel
theorem dX11_wishOf_18 : decode cX11_wishOf 18 = .ok (.aload_n 0, 1) := by decide +kernel
theorem dX11_wishOf_19 : decode cX11_wishOf 19 = .ok (.invokevirtual 427, 3) := by decide +kernel
theorem dX11_wishOf_22 : decode cX11_wishOf 22 = .ok (.if_icmp .ge 33, 3) := by decide +kernel
theorem dX11_wishOf_25 : decode cX11_wishOf 25 = .ok (.aload_n 0, 1) := by decide +kernel
theorem dX11_wishOf_26 : decode cX11_wishOf 26 = .ok (.iload_n 1, 1) := by decide +kernel
theorem dX11_wishOf_27 : decode cX11_wishOf 27 = .ok (.iload 4, 2) := by decide +kernel
theorem dX11_wishOf_29 : decode cX11_wishOf 29 = .ok (.invokevirtual 527, 3) := by decide +kernel
theorem dX11_wishOf_32 : decode cX11_wishOf 32 = .ok (.istore 5, 2) := by decide +kernel
theorem dX11_wishOf_34 : decode cX11_wishOf 34 = .ok (.iload 5, 2) := by decide +kernel
theorem dX11_wishOf_36 : decode cX11_wishOf 36 = .ok (.iload_n 3, 1) := by decide +kernel
theorem dX11_wishOf_37 : decode cX11_wishOf 37 = .ok (.if_icmp .gt 6, 3) := by decide +kernel
theorem dX11_wishOf_40 : decode cX11_wishOf 40 = .ok (.goto 9, 3) := by decide +kernel
theorem dX11_wishOf_43 : decode cX11_wishOf 43 = .ok (.iload 4, 2) := by decide +kernel
theorem dX11_wishOf_45 : decode cX11_wishOf 45 = .ok (.istore_n 2, 1) := by decide +kernel
theorem dX11_wishOf_46 : decode cX11_wishOf 46 = .ok (.iload 5, 2) := by decide +kernel
theorem dX11_wishOf_48 : decode cX11_wishOf 48 = .ok (.istore_n 3, 1) := by decide +kernel
theorem dX11_wishOf_49 : decode cX11_wishOf 49 = .ok (.iinc 4 1, 3) := by decide +kernel
theorem dX11_wishOf_52 : decode cX11_wishOf 52 = .ok (.goto (-36), 3) := by decide +kernel
theorem dX11_wishOf_55 : decode cX11_wishOf 55 = .ok (.iload_n 2, 1) := by decide +kernel
theorem dX11_wishOf_56 : decode cX11_wishOf 56 = .ok (.ireturn, 1) := by decide +kernel
theorem dX11_wish_0 : decode cX11_wish 0 = .ok (.aload_n 0, 1) := by decide +kernel
theorem dX11_wish_1 : decode cX11_wish 1 = .ok (.iload_n 1, 1) := by decide +kernel
theorem dX11_wish_2 : decode cX11_wish 2 = .ok (.invokevirtual 481, 3) := by decide +kernel
theorem dX11_wish_5 : decode cX11_wish 5 = .ok (.ifCond .eq 11, 3) := by decide +kernel
theorem dX11_wish_8 : decode cX11_wish 8 = .ok (.aload_n 0, 1) := by decide +kernel
theorem dX11_wish_9 : decode cX11_wish 9 = .ok (.iload_n 1, 1) := by decide +kernel
theorem dX11_wish_10 : decode cX11_wish 10 = .ok (.invokevirtual 530, 3) := by decide +kernel
theorem dX11_wish_13 : decode cX11_wish 13 = .ok (.goto 5, 3) := by decide +kernel
theorem dX11_wish_16 : decode cX11_wish 16 = .ok (.bipush (-2), 2) := by decide +kernel
theorem dX11_wish_18 : decode cX11_wish 18 = .ok (.ireturn, 1) := by decide +kernel
theorem dX11_choose_0 : decode cX11_choose 0 = .ok (.iload_n 1, 1) := by decide +kernel
theorem dX11_choose_1 : decode cX11_choose 1 = .ok (.i2l, 1) := by decide +kernel
theorem dX11_choose_2 : decode cX11_choose 2 = .ok (.lconst 1, 1) := by decide +kernel
theorem dX11_choose_3 : decode cX11_choose 3 = .ok (.ldc2_w 497, 3) := by decide +kernel
theorem dX11_choose_6 : decode cX11_choose 6 = .ok (.invokestatic 264, 3) := by decide +kernel
theorem dX11_choose_9 : decode cX11_choose 9 = .ok (.ifCond .ne 5, 3) := by decide +kernel
theorem dX11_choose_12 : decode cX11_choose 12 = .ok (.iconst (-1), 1) := by decide +kernel
theorem dX11_choose_13 : decode cX11_choose 13 = .ok (.ireturn, 1) := by decide +kernel
theorem dX11_choose_14 : decode cX11_choose 14 = .ok (.iconst 1, 1) := by decide +kernel
theorem dX11_choose_15 : decode cX11_choose 15 = .ok (.istore_n 2, 1) := by decide +kernel
theorem dX11_choose_16 : decode cX11_choose 16 = .ok (.iload_n 2, 1) := by decide +kernel
theorem dX11_choose_17 : decode cX11_choose 17 = .ok (.iload_n 1, 1) := by decide +kernel
theorem dX11_choose_18 : decode cX11_choose 18 = .ok (.if_icmp .gt 74, 3) := by decide +kernel
theorem dX11_choose_21 : decode cX11_choose 21 = .ok (.iconst 0, 1) := by decide +kernel
theorem dX11_choose_22 : decode cX11_choose 22 = .ok (.istore_n 3, 1) := by decide +kernel
theorem dX11_choose_23 : decode cX11_choose 23 = .ok (.iconst 0, 1) := by decide +kernel
theorem dX11_choose_24 : decode cX11_choose 24 = .ok (.istore 4, 2) := by decide +kernel
theorem dX11_choose_26 : decode cX11_choose 26 = .ok (.iload 4, 2) := by decide +kernel
theorem dX11_choose_28 : decode cX11_choose 28 = .ok (.aload_n 0, 1) := by decide +kernel
theorem dX11_choose_29 : decode cX11_choose 29 = .ok (.invokevirtual 424, 3) := by decide +kernel
theorem dX11_choose_32 : decode cX11_choose 32 = .ok (.if_icmp .ge 48, 3) := by decide +kernel
theorem dX11_choose_35 : decode cX11_choose 35 = .ok (.aload_n 0, 1) := by decide +kernel
theorem dX11_choose_36 : decode cX11_choose 36 = .ok (.iload 4, 2) := by decide +kernel
theorem dX11_choose_38 : decode cX11_choose 38 = .ok (.invokevirtual 530, 3) := by decide +kernel
theorem dX11_choose_41 : decode cX11_choose 41 = .ok (.istore 5, 2) := by decide +kernel
theorem dX11_choose_43 : decode cX11_choose 43 = .ok (.iload_n 3, 1) := by decide +kernel
theorem dX11_choose_44 : decode cX11_choose 44 = .ok (.ifCond .ne 15, 3) := by decide +kernel
theorem dX11_choose_47 : decode cX11_choose 47 = .ok (.iload 5, 2) := by decide +kernel
theorem dX11_choose_49 : decode cX11_choose 49 = .ok (.aload_n 0, 1) := by decide +kernel
theorem dX11_choose_50 : decode cX11_choose 50 = .ok (.getfield 169, 3) := by decide +kernel
theorem dX11_choose_53 : decode cX11_choose 53 = .ok (.iload 4, 2) := by decide +kernel
theorem dX11_choose_55 : decode cX11_choose 55 = .ok (.iaload, 1) := by decide +kernel
theorem dX11_choose_56 : decode cX11_choose 56 = .ok (.if_icmp .eq 7, 3) := by decide +kernel
theorem dX11_choose_59 : decode cX11_choose 59 = .ok (.iconst 1, 1) := by decide +kernel
theorem dX11_choose_60 : decode cX11_choose 60 = .ok (.goto 4, 3) := by decide +kernel
theorem dX11_choose_63 : decode cX11_choose 63 = .ok (.iconst 0, 1) := by decide +kernel
theorem dX11_choose_64 : decode cX11_choose 64 = .ok (.istore_n 3, 1) := by decide +kernel
theorem dX11_choose_65 : decode cX11_choose 65 = .ok (.aload_n 0, 1) := by decide +kernel
theorem dX11_choose_66 : decode cX11_choose 66 = .ok (.getfield 169, 3) := by decide +kernel
theorem dX11_choose_69 : decode cX11_choose 69 = .ok (.iload 4, 2) := by decide +kernel
theorem dX11_choose_71 : decode cX11_choose 71 = .ok (.iload 5, 2) := by decide +kernel
theorem dX11_choose_73 : decode cX11_choose 73 = .ok (.iastore, 1) := by decide +kernel
theorem dX11_choose_74 : decode cX11_choose 74 = .ok (.iinc 4 1, 3) := by decide +kernel
theorem dX11_choose_77 : decode cX11_choose 77 = .ok (.goto (-51), 3) := by decide +kernel
theorem dX11_choose_80 : decode cX11_choose 80 = .ok (.iload_n 3, 1) := by decide +kernel
theorem dX11_choose_81 : decode cX11_choose 81 = .ok (.ifCond .ne 5, 3) := by decide +kernel
theorem dX11_choose_84 : decode cX11_choose 84 = .ok (.iload_n 2, 1) := by decide +kernel
theorem dX11_choose_85 : decode cX11_choose 85 = .ok (.ireturn, 1) := by decide +kernel
theorem dX11_choose_86 : decode cX11_choose 86 = .ok (.iinc 2 1, 3) := by decide +kernel
theorem dX11_choose_89 : decode cX11_choose 89 = .ok (.goto (-73), 3) := by decide +kernel
theorem dX11_choose_92 : decode cX11_choose 92 = .ok (.bipush (-2), 2) := by decide +kernel
theorem dX11_choose_94 : decode cX11_choose 94 = .ok (.ireturn, 1) := by decide +kernel
theorem dX11_stable_0 : decode cX11_stable 0 = .ok (.iconst 0, 1) := by decide +kernel
theorem dX11_stable_1 : decode cX11_stable 1 = .ok (.istore_n 1, 1) := by decide +kernel
theorem dX11_stable_2 : decode cX11_stable 2 = .ok (.iload_n 1, 1) := by decide +kernel
theorem dX11_stable_3 : decode cX11_stable 3 = .ok (.aload_n 0, 1) := by decide +kernel
theorem dX11_stable_4 : decode cX11_stable 4 = .ok (.invokevirtual 424, 3) := by decide +kernel
theorem dX11_stable_7 : decode cX11_stable 7 = .ok (.if_icmp .ge 25, 3) := by decide +kernel
theorem dX11_stable_10 : decode cX11_stable 10 = .ok (.aload_n 0, 1) := by decide +kernel
theorem dX11_stable_11 : decode cX11_stable 11 = .ok (.iload_n 1, 1) := by decide +kernel
theorem dX11_stable_12 : decode cX11_stable 12 = .ok (.invokevirtual 530, 3) := by decide +kernel
theorem dX11_stable_15 : decode cX11_stable 15 = .ok (.aload_n 0, 1) := by decide +kernel
theorem dX11_stable_16 : decode cX11_stable 16 = .ok (.getfield 169, 3) := by decide +kernel
theorem dX11_stable_19 : decode cX11_stable 19 = .ok (.iload_n 1, 1) := by decide +kernel
theorem dX11_stable_20 : decode cX11_stable 20 = .ok (.iaload, 1) := by decide +kernel
theorem dX11_stable_21 : decode cX11_stable 21 = .ok (.if_icmp .eq 5, 3) := by decide +kernel
theorem dX11_stable_24 : decode cX11_stable 24 = .ok (.iconst 0, 1) := by decide +kernel
theorem dX11_stable_25 : decode cX11_stable 25 = .ok (.ireturn, 1) := by decide +kernel
theorem dX11_stable_26 : decode cX11_stable 26 = .ok (.iinc 1 1, 3) := by decide +kernel
theorem dX11_stable_29 : decode cX11_stable 29 = .ok (.goto (-27), 3) := by decide +kernel
theorem dX11_stable_32 : decode cX11_stable 32 = .ok (.iconst 1, 1) := by decide +kernel
theorem dX11_stable_33 : decode cX11_stable 33 = .ok (.ireturn, 1) := by decide +kernel
theorem dX11_gap_0 : decode cX11_gap 0 = .ok (.aload_n 0, 1) := by decide +kernel
theorem dX11_gap_1 : decode cX11_gap 1 = .ok (.iload_n 1, 1) := by decide +kernel
theorem dX11_gap_2 : decode cX11_gap 2 = .ok (.invokevirtual 481, 3) := by decide +kernel
theorem dX11_gap_5 : decode cX11_gap 5 = .ok (.ifCond .eq 22, 3) := by decide +kernel
theorem dX11_gap_8 : decode cX11_gap 8 = .ok (.aload_n 0, 1) := by decide +kernel
theorem dX11_gap_9 : decode cX11_gap 9 = .ok (.iload_n 1, 1) := by decide +kernel
theorem dX11_gap_10 : decode cX11_gap 10 = .ok (.aload_n 0, 1) := by decide +kernel
theorem dX11_gap_11 : decode cX11_gap 11 = .ok (.iload_n 1, 1) := by decide +kernel
theorem dX11_gap_12 : decode cX11_gap 12 = .ok (.invokevirtual 530, 3) := by decide +kernel
theorem dX11_gap_15 : decode cX11_gap 15 = .ok (.invokevirtual 527, 3) := by decide +kernel
theorem dX11_gap_18 : decode cX11_gap 18 = .ok (.aload_n 0, 1) := by decide +kernel
theorem dX11_gap_19 : decode cX11_gap 19 = .ok (.iload_n 1, 1) := by decide +kernel
theorem dX11_gap_20 : decode cX11_gap 20 = .ok (.invokevirtual 475, 3) := by decide +kernel
theorem dX11_gap_23 : decode cX11_gap 23 = .ok (.isub, 1) := by decide +kernel
theorem dX11_gap_24 : decode cX11_gap 24 = .ok (.goto 4, 3) := by decide +kernel
theorem dX11_gap_27 : decode cX11_gap 27 = .ok (.iconst (-1), 1) := by decide +kernel
theorem dX11_gap_28 : decode cX11_gap 28 = .ok (.ireturn, 1) := by decide +kernel
theorem dX11_moreAlone_0 : decode cX11_moreAlone 0 = .ok (.aload_n 0, 1) := by decide +kernel
theorem dX11_moreAlone_1 : decode cX11_moreAlone 1 = .ok (.iload_n 1, 1) := by decide +kernel
theorem dX11_moreAlone_2 : decode cX11_moreAlone 2 = .ok (.invokevirtual 475, 3) := by decide +kernel
theorem dX11_moreAlone_5 : decode cX11_moreAlone 5 = .ok (.ineg, 1) := by decide +kernel
theorem dX11_moreAlone_6 : decode cX11_moreAlone 6 = .ok (.istore_n 2, 1) := by decide +kernel
theorem dX11_moreAlone_7 : decode cX11_moreAlone 7 = .ok (.aload_n 0, 1) := by decide +kernel
theorem dX11_moreAlone_8 : decode cX11_moreAlone 8 = .ok (.getfield 169, 3) := by decide +kernel
theorem dX11_moreAlone_11 : decode cX11_moreAlone 11 = .ok (.iload_n 1, 1) := by decide +kernel
theorem dX11_moreAlone_12 : decode cX11_moreAlone 12 = .ok (.iaload, 1) := by decide +kernel
theorem dX11_moreAlone_13 : decode cX11_moreAlone 13 = .ok (.istore_n 3, 1) := by decide +kernel
theorem dX11_moreAlone_14 : decode cX11_moreAlone 14 = .ok (.aload_n 0, 1) := by decide +kernel
theorem dX11_moreAlone_15 : decode cX11_moreAlone 15 = .ok (.getfield 169, 3) := by decide +kernel
theorem dX11_moreAlone_18 : decode cX11_moreAlone 18 = .ok (.iload_n 1, 1) := by decide +kernel
theorem dX11_moreAlone_19 : decode cX11_moreAlone 19 = .ok (.iconst (-1), 1) := by decide +kernel
theorem dX11_moreAlone_20 : decode cX11_moreAlone 20 = .ok (.iastore, 1) := by decide +kernel
theorem dX11_moreAlone_21 : decode cX11_moreAlone 21 = .ok (.iload_n 2, 1) := by decide +kernel
theorem dX11_moreAlone_22 : decode cX11_moreAlone 22 = .ok (.aload_n 0, 1) := by decide +kernel
theorem dX11_moreAlone_23 : decode cX11_moreAlone 23 = .ok (.iload_n 1, 1) := by decide +kernel
theorem dX11_moreAlone_24 : decode cX11_moreAlone 24 = .ok (.aload_n 0, 1) := by decide +kernel
theorem dX11_moreAlone_25 : decode cX11_moreAlone 25 = .ok (.iload_n 1, 1) := by decide +kernel
theorem dX11_moreAlone_26 : decode cX11_moreAlone 26 = .ok (.invokevirtual 484, 3) := by decide +kernel
theorem dX11_moreAlone_29 : decode cX11_moreAlone 29 = .ok (.invokevirtual 478, 3) := by decide +kernel
theorem dX11_moreAlone_32 : decode cX11_moreAlone 32 = .ok (.iadd, 1) := by decide +kernel
theorem dX11_moreAlone_33 : decode cX11_moreAlone 33 = .ok (.istore_n 2, 1) := by decide +kernel
theorem dX11_moreAlone_34 : decode cX11_moreAlone 34 = .ok (.aload_n 0, 1) := by decide +kernel
theorem dX11_moreAlone_35 : decode cX11_moreAlone 35 = .ok (.getfield 169, 3) := by decide +kernel
theorem dX11_moreAlone_38 : decode cX11_moreAlone 38 = .ok (.iload_n 1, 1) := by decide +kernel
theorem dX11_moreAlone_39 : decode cX11_moreAlone 39 = .ok (.iload_n 3, 1) := by decide +kernel
theorem dX11_moreAlone_40 : decode cX11_moreAlone 40 = .ok (.iastore, 1) := by decide +kernel
theorem dX11_moreAlone_41 : decode cX11_moreAlone 41 = .ok (.iload_n 2, 1) := by decide +kernel
theorem dX11_moreAlone_42 : decode cX11_moreAlone 42 = .ok (.ireturn, 1) := by decide +kernel
theorem dX11_rings_0 : decode cX11_rings 0 = .ok (.aload_n 0, 1) := by decide +kernel
theorem dX11_rings_1 : decode cX11_rings 1 = .ok (.iload_n 1, 1) := by decide +kernel
theorem dX11_rings_2 : decode cX11_rings 2 = .ok (.invokevirtual 487, 3) := by decide +kernel
theorem dX11_rings_5 : decode cX11_rings 5 = .ok (.ifCond .eq 7, 3) := by decide +kernel
theorem dX11_rings_8 : decode cX11_rings 8 = .ok (.iload_n 2, 1) := by decide +kernel
theorem dX11_rings_9 : decode cX11_rings 9 = .ok (.ifCond .ge 5, 3) := by decide +kernel
theorem dX11_rings_12 : decode cX11_rings 12 = .ok (.iconst (-1), 1) := by decide +kernel
theorem dX11_rings_13 : decode cX11_rings 13 = .ok (.ireturn, 1) := by decide +kernel
theorem dX11_rings_14 : decode cX11_rings 14 = .ok (.iconst 0, 1) := by decide +kernel
theorem dX11_rings_15 : decode cX11_rings 15 = .ok (.istore_n 3, 1) := by decide +kernel
theorem dX11_rings_16 : decode cX11_rings 16 = .ok (.iload_n 3, 1) := by decide +kernel
theorem dX11_rings_17 : decode cX11_rings 17 = .ok (.aload_n 0, 1) := by decide +kernel
theorem dX11_rings_18 : decode cX11_rings 18 = .ok (.invokevirtual 424, 3) := by decide +kernel
theorem dX11_rings_21 : decode cX11_rings 21 = .ok (.if_icmp .ge 21, 3) := by decide +kernel
theorem dX11_rings_24 : decode cX11_rings 24 = .ok (.aload_n 0, 1) := by decide +kernel
theorem dX11_rings_25 : decode cX11_rings 25 = .ok (.getfield 202, 3) := by decide +kernel
theorem dX11_rings_28 : decode cX11_rings 28 = .ok (.iload_n 3, 1) := by decide +kernel
theorem dX11_rings_29 : decode cX11_rings 29 = .ok (.aload_n 0, 1) := by decide +kernel
theorem dX11_rings_30 : decode cX11_rings 30 = .ok (.getfield 169, 3) := by decide +kernel
theorem dX11_rings_33 : decode cX11_rings 33 = .ok (.iload_n 3, 1) := by decide +kernel
theorem dX11_rings_34 : decode cX11_rings 34 = .ok (.iaload, 1) := by decide +kernel
theorem dX11_rings_35 : decode cX11_rings 35 = .ok (.iastore, 1) := by decide +kernel
theorem dX11_rings_36 : decode cX11_rings 36 = .ok (.iinc 3 1, 3) := by decide +kernel
theorem dX11_rings_39 : decode cX11_rings 39 = .ok (.goto (-23), 3) := by decide +kernel
theorem dX11_rings_42 : decode cX11_rings 42 = .ok (.iconst (-1), 1) := by decide +kernel
theorem dX11_rings_43 : decode cX11_rings 43 = .ok (.istore_n 3, 1) := by decide +kernel
theorem dX11_rings_44 : decode cX11_rings 44 = .ok (.iconst 1, 1) := by decide +kernel
theorem dX11_rings_45 : decode cX11_rings 45 = .ok (.istore 4, 2) := by decide +kernel
theorem dX11_rings_47 : decode cX11_rings 47 = .ok (.iconst 0, 1) := by decide +kernel
theorem dX11_rings_48 : decode cX11_rings 48 = .ok (.istore 5, 2) := by decide +kernel
theorem dX11_rings_50 : decode cX11_rings 50 = .ok (.iload 5, 2) := by decide +kernel
theorem dX11_rings_52 : decode cX11_rings 52 = .ok (.iload_n 2, 1) := by decide +kernel
theorem dX11_rings_53 : decode cX11_rings 53 = .ok (.if_icmp .gt 104, 3) := by decide +kernel
theorem dX11_rings_56 : decode cX11_rings 56 = .ok (.iload 4, 2) := by decide +kernel
theorem dX11_rings_58 : decode cX11_rings 58 = .ok (.ifCond .eq 99, 3) := by decide +kernel
theorem dX11_rings_61 : decode cX11_rings 61 = .ok (.iconst (-1), 1) := by decide +kernel
theorem dX11_rings_62 : decode cX11_rings 62 = .ok (.istore 6, 2) := by decide +kernel
theorem dX11_rings_64 : decode cX11_rings 64 = .ok (.iconst 0, 1) := by decide +kernel
theorem dX11_rings_65 : decode cX11_rings 65 = .ok (.istore 7, 2) := by decide +kernel
theorem dX11_rings_67 : decode cX11_rings 67 = .ok (.iconst 0, 1) := by decide +kernel
theorem dX11_rings_68 : decode cX11_rings 68 = .ok (.istore 8, 2) := by decide +kernel
theorem dX11_rings_70 : decode cX11_rings 70 = .ok (.iload 8, 2) := by decide +kernel
theorem dX11_rings_72 : decode cX11_rings 72 = .ok (.aload_n 0, 1) := by decide +kernel
theorem dX11_rings_73 : decode cX11_rings 73 = .ok (.invokevirtual 424, 3) := by decide +kernel
theorem dX11_rings_76 : decode cX11_rings 76 = .ok (.if_icmp .ge 46, 3) := by decide +kernel
theorem dX11_rings_79 : decode cX11_rings 79 = .ok (.aload_n 0, 1) := by decide +kernel
theorem dX11_rings_80 : decode cX11_rings 80 = .ok (.getfield 169, 3) := by decide +kernel
theorem dX11_rings_83 : decode cX11_rings 83 = .ok (.iload 8, 2) := by decide +kernel
theorem dX11_rings_85 : decode cX11_rings 85 = .ok (.iaload, 1) := by decide +kernel
theorem dX11_rings_86 : decode cX11_rings 86 = .ok (.iload_n 1, 1) := by decide +kernel
theorem dX11_rings_87 : decode cX11_rings 87 = .ok (.if_icmp .ne 29, 3) := by decide +kernel
theorem dX11_rings_90 : decode cX11_rings 90 = .ok (.aload_n 0, 1) := by decide +kernel
theorem dX11_rings_91 : decode cX11_rings 91 = .ok (.iload 8, 2) := by decide +kernel
theorem dX11_rings_93 : decode cX11_rings 93 = .ok (.invokevirtual 533, 3) := by decide +kernel
theorem dX11_rings_96 : decode cX11_rings 96 = .ok (.iload 7, 2) := by decide +kernel
theorem dX11_rings_98 : decode cX11_rings 98 = .ok (.if_icmp .gt 6, 3) := by decide +kernel
theorem dX11_rings_101 : decode cX11_rings 101 = .ok (.goto 15, 3) := by decide +kernel
theorem dX11_rings_104 : decode cX11_rings 104 = .ok (.iload 8, 2) := by decide +kernel
theorem dX11_rings_106 : decode cX11_rings 106 = .ok (.istore 6, 2) := by decide +kernel
theorem dX11_rings_108 : decode cX11_rings 108 = .ok (.aload_n 0, 1) := by decide +kernel
theorem dX11_rings_109 : decode cX11_rings 109 = .ok (.iload 8, 2) := by decide +kernel
theorem dX11_rings_111 : decode cX11_rings 111 = .ok (.invokevirtual 533, 3) := by decide +kernel
theorem dX11_rings_114 : decode cX11_rings 114 = .ok (.istore 7, 2) := by decide +kernel
theorem dX11_rings_116 : decode cX11_rings 116 = .ok (.iinc 8 1, 3) := by decide +kernel
theorem dX11_rings_119 : decode cX11_rings 119 = .ok (.goto (-49), 3) := by decide +kernel
theorem dX11_rings_122 : decode cX11_rings 122 = .ok (.iload 6, 2) := by decide +kernel
theorem dX11_rings_124 : decode cX11_rings 124 = .ok (.iconst (-1), 1) := by decide +kernel
theorem dX11_rings_125 : decode cX11_rings 125 = .ok (.if_icmp .eq 7, 3) := by decide +kernel
theorem dX11_rings_128 : decode cX11_rings 128 = .ok (.iconst 1, 1) := by decide +kernel
theorem dX11_rings_129 : decode cX11_rings 129 = .ok (.goto 4, 3) := by decide +kernel
theorem dX11_rings_132 : decode cX11_rings 132 = .ok (.iconst 0, 1) := by decide +kernel
theorem dX11_rings_133 : decode cX11_rings 133 = .ok (.istore 4, 2) := by decide +kernel
theorem dX11_rings_135 : decode cX11_rings 135 = .ok (.iload 4, 2) := by decide +kernel
theorem dX11_rings_137 : decode cX11_rings 137 = .ok (.ifCond .eq 11, 3) := by decide +kernel
theorem dX11_rings_140 : decode cX11_rings 140 = .ok (.aload_n 0, 1) := by decide +kernel
theorem dX11_rings_141 : decode cX11_rings 141 = .ok (.getfield 169, 3) := by decide +kernel
theorem dX11_rings_144 : decode cX11_rings 144 = .ok (.iload 6, 2) := by decide +kernel
theorem dX11_rings_146 : decode cX11_rings 146 = .ok (.iconst (-1), 1) := by decide +kernel
theorem dX11_rings_147 : decode cX11_rings 147 = .ok (.iastore, 1) := by decide +kernel
theorem dX11_rings_148 : decode cX11_rings 148 = .ok (.iload 6, 2) := by decide +kernel
theorem dX11_rings_150 : decode cX11_rings 150 = .ok (.istore_n 3, 1) := by decide +kernel
theorem dX11_rings_151 : decode cX11_rings 151 = .ok (.iinc 5 1, 3) := by decide +kernel
theorem dX11_rings_154 : decode cX11_rings 154 = .ok (.goto (-104), 3) := by decide +kernel
theorem dX11_rings_157 : decode cX11_rings 157 = .ok (.iconst 0, 1) := by decide +kernel
theorem dX11_rings_158 : decode cX11_rings 158 = .ok (.istore 5, 2) := by decide +kernel
theorem dX11_rings_160 : decode cX11_rings 160 = .ok (.iload 5, 2) := by decide +kernel
theorem dX11_rings_162 : decode cX11_rings 162 = .ok (.aload_n 0, 1) := by decide +kernel
theorem dX11_rings_163 : decode cX11_rings 163 = .ok (.invokevirtual 424, 3) := by decide +kernel
theorem dX11_rings_166 : decode cX11_rings 166 = .ok (.if_icmp .ge 23, 3) := by decide +kernel
theorem dX11_rings_169 : decode cX11_rings 169 = .ok (.aload_n 0, 1) := by decide +kernel
theorem dX11_rings_170 : decode cX11_rings 170 = .ok (.getfield 169, 3) := by decide +kernel
theorem dX11_rings_173 : decode cX11_rings 173 = .ok (.iload 5, 2) := by decide +kernel
theorem dX11_rings_175 : decode cX11_rings 175 = .ok (.aload_n 0, 1) := by decide +kernel
theorem dX11_rings_176 : decode cX11_rings 176 = .ok (.getfield 202, 3) := by decide +kernel
theorem dX11_rings_179 : decode cX11_rings 179 = .ok (.iload 5, 2) := by decide +kernel
theorem dX11_rings_181 : decode cX11_rings 181 = .ok (.iaload, 1) := by decide +kernel
theorem dX11_rings_182 : decode cX11_rings 182 = .ok (.iastore, 1) := by decide +kernel
theorem dX11_rings_183 : decode cX11_rings 183 = .ok (.iinc 5 1, 3) := by decide +kernel
theorem dX11_rings_186 : decode cX11_rings 186 = .ok (.goto (-26), 3) := by decide +kernel
theorem dX11_rings_189 : decode cX11_rings 189 = .ok (.iload_n 3, 1) := by decide +kernel
theorem dX11_rings_190 : decode cX11_rings 190 = .ok (.ireturn, 1) := by decide +kernel
theorem dX11_clip_0 : decode cX11_clip 0 = .ok (.lload_n 0, 1) := by decide +kernel
theorem dX11_clip_1 : decode cX11_clip 1 = .ok (.ldc2_w 536, 3) := by decide +kernel
theorem dX11_clip_4 : decode cX11_clip 4 = .ok (.lcmp, 1) := by decide +kernel
theorem dX11_clip_5 : decode cX11_clip 5 = .ok (.ifCond .le 9, 3) := by decide +kernel
theorem dX11_clip_8 : decode cX11_clip 8 = .ok (.ldc2_w 536, 3) := by decide +kernel
theorem dX11_clip_11 : decode cX11_clip 11 = .ok (.goto 18, 3) := by decide +kernel
theorem dX11_clip_14 : decode cX11_clip 14 = .ok (.lload_n 0, 1) := by decide +kernel
theorem dX11_clip_15 : decode cX11_clip 15 = .ok (.ldc2_w 538, 3) := by decide +kernel
theorem dX11_clip_18 : decode cX11_clip 18 = .ok (.lcmp, 1) := by decide +kernel
theorem dX11_clip_19 : decode cX11_clip 19 = .ok (.ifCond .ge 9, 3) := by decide +kernel
theorem dX11_clip_22 : decode cX11_clip 22 = .ok (.ldc2_w 538, 3) := by decide +kernel
theorem dX11_clip_25 : decode cX11_clip 25 = .ok (.goto 4, 3) := by decide +kernel
theorem dX11_clip_28 : decode cX11_clip 28 = .ok (.lload_n 0, 1) := by decide +kernel
theorem dX11_clip_29 : decode cX11_clip 29 = .ok (.lreturn, 1) := by decide +kernel
theorem dX11_floor_0 : decode cX11_floor 0 = .ok (.lload_n 2, 1) := by decide +kernel
theorem dX11_floor_1 : decode cX11_floor 1 = .ok (.lconst 0, 1) := by decide +kernel
theorem dX11_floor_2 : decode cX11_floor 2 = .ok (.lcmp, 1) := by decide +kernel
theorem dX11_floor_3 : decode cX11_floor 3 = .ok (.ifCond .ne 5, 3) := by decide +kernel
theorem dX11_floor_6 : decode cX11_floor 6 = .ok (.lconst 0, 1) := by decide +kernel
theorem dX11_floor_7 : decode cX11_floor 7 = .ok (.lreturn, 1) := by decide +kernel
theorem dX11_floor_8 : decode cX11_floor 8 = .ok (.lload_n 0, 1) := by decide +kernel
theorem dX11_floor_9 : decode cX11_floor 9 = .ok (.lload_n 2, 1) := by decide +kernel
theorem dX11_floor_10 : decode cX11_floor 10 = .ok (.ldiv, 1) := by decide +kernel
theorem dX11_floor_11 : decode cX11_floor 11 = .ok (.lstore 4, 2) := by decide +kernel
theorem dX11_floor_13 : decode cX11_floor 13 = .ok (.lload_n 0, 1) := by decide +kernel
theorem dX11_floor_14 : decode cX11_floor 14 = .ok (.lload_n 2, 1) := by decide +kernel
theorem dX11_floor_15 : decode cX11_floor 15 = .ok (.lrem, 1) := by decide +kernel
theorem dX11_floor_16 : decode cX11_floor 16 = .ok (.lconst 0, 1) := by decide +kernel
theorem dX11_floor_17 : decode cX11_floor 17 = .ok (.lcmp, 1) := by decide +kernel
theorem dX11_floor_18 : decode cX11_floor 18 = .ok (.ifCond .eq 35, 3) := by decide +kernel
theorem dX11_floor_21 : decode cX11_floor 21 = .ok (.lload_n 0, 1) := by decide +kernel
theorem dX11_floor_22 : decode cX11_floor 22 = .ok (.lconst 0, 1) := by decide +kernel
theorem dX11_floor_23 : decode cX11_floor 23 = .ok (.lcmp, 1) := by decide +kernel
theorem dX11_floor_24 : decode cX11_floor 24 = .ok (.ifCond .ge 7, 3) := by decide +kernel
theorem dX11_floor_27 : decode cX11_floor 27 = .ok (.iconst 1, 1) := by decide +kernel
theorem dX11_floor_28 : decode cX11_floor 28 = .ok (.goto 4, 3) := by decide +kernel
theorem dX11_floor_31 : decode cX11_floor 31 = .ok (.iconst 0, 1) := by decide +kernel
theorem dX11_floor_32 : decode cX11_floor 32 = .ok (.lload_n 2, 1) := by decide +kernel
theorem dX11_floor_33 : decode cX11_floor 33 = .ok (.lconst 0, 1) := by decide +kernel
theorem dX11_floor_34 : decode cX11_floor 34 = .ok (.lcmp, 1) := by decide +kernel
theorem dX11_floor_35 : decode cX11_floor 35 = .ok (.ifCond .ge 7, 3) := by decide +kernel
theorem dX11_floor_38 : decode cX11_floor 38 = .ok (.iconst 1, 1) := by decide +kernel
theorem dX11_floor_39 : decode cX11_floor 39 = .ok (.goto 4, 3) := by decide +kernel
theorem dX11_floor_42 : decode cX11_floor 42 = .ok (.iconst 0, 1) := by decide +kernel
theorem dX11_floor_43 : decode cX11_floor 43 = .ok (.if_icmp .eq 10, 3) := by decide +kernel
theorem dX11_floor_46 : decode cX11_floor 46 = .ok (.lload 4, 2) := by decide +kernel
theorem dX11_floor_48 : decode cX11_floor 48 = .ok (.lconst 1, 1) := by decide +kernel
theorem dX11_floor_49 : decode cX11_floor 49 = .ok (.lsub, 1) := by decide +kernel
theorem dX11_floor_50 : decode cX11_floor 50 = .ok (.goto 5, 3) := by decide +kernel
theorem dX11_floor_53 : decode cX11_floor 53 = .ok (.lload 4, 2) := by decide +kernel
theorem dX11_floor_55 : decode cX11_floor 55 = .ok (.lreturn, 1) := by decide +kernel
theorem dX11_puts_0 : decode cX11_puts 0 = .ok (.aload_n 0, 1) := by decide +kernel
theorem dX11_puts_1 : decode cX11_puts 1 = .ok (.getfield 205, 3) := by decide +kernel
theorem dX11_puts_4 : decode cX11_puts 4 = .ok (.aload_n 0, 1) := by decide +kernel
theorem dX11_puts_5 : decode cX11_puts 5 = .ok (.getfield 540, 3) := by decide +kernel
theorem dX11_puts_8 : decode cX11_puts 8 = .ok (.lload_n 1, 1) := by decide +kernel
theorem dX11_puts_9 : decode cX11_puts 9 = .ok (.lastore, 1) := by decide +kernel
theorem dX11_puts_10 : decode cX11_puts 10 = .ok (.aload_n 0, 1) := by decide +kernel
theorem dX11_puts_11 : decode cX11_puts 11 = .ok (.dup, 1) := by decide +kernel
theorem dX11_puts_12 : decode cX11_puts 12 = .ok (.getfield 540, 3) := by decide +kernel
theorem dX11_puts_15 : decode cX11_puts 15 = .ok (.iconst 1, 1) := by decide +kernel
theorem dX11_puts_16 : decode cX11_puts 16 = .ok (.iadd, 1) := by decide +kernel
theorem dX11_puts_17 : decode cX11_puts 17 = .ok (.putfield 540, 3) := by decide +kernel
theorem dX11_puts_20 : decode cX11_puts 20 = .ok (.return_, 1) := by decide +kernel
theorem dX11_joins_0 : decode cX11_joins 0 = .ok (.aload_n 0, 1) := by decide +kernel
theorem dX11_joins_1 : decode cX11_joins 1 = .ok (.getfield 205, 3) := by decide +kernel
theorem dX11_joins_4 : decode cX11_joins 4 = .ok (.aload_n 0, 1) := by decide +kernel
theorem dX11_joins_5 : decode cX11_joins 5 = .ok (.getfield 540, 3) := by decide +kernel
theorem dX11_joins_8 : decode cX11_joins 8 = .ok (.iconst 1, 1) := by decide +kernel
theorem dX11_joins_9 : decode cX11_joins 9 = .ok (.isub, 1) := by decide +kernel
theorem dX11_joins_10 : decode cX11_joins 10 = .ok (.laload, 1) := by decide +kernel
theorem dX11_joins_11 : decode cX11_joins 11 = .ok (.lstore_n 2, 1) := by decide +kernel
theorem dX11_joins_12 : decode cX11_joins 12 = .ok (.aload_n 0, 1) := by decide +kernel
theorem dX11_joins_13 : decode cX11_joins 13 = .ok (.getfield 205, 3) := by decide +kernel
theorem dX11_joins_16 : decode cX11_joins 16 = .ok (.aload_n 0, 1) := by decide +kernel
theorem dX11_joins_17 : decode cX11_joins 17 = .ok (.getfield 540, 3) := by decide +kernel
theorem dX11_joins_20 : decode cX11_joins 20 = .ok (.iconst 2, 1) := by decide +kernel
theorem dX11_joins_21 : decode cX11_joins 21 = .ok (.isub, 1) := by decide +kernel
theorem dX11_joins_22 : decode cX11_joins 22 = .ok (.laload, 1) := by decide +kernel
theorem dX11_joins_23 : decode cX11_joins 23 = .ok (.lstore 4, 2) := by decide +kernel
theorem dX11_joins_25 : decode cX11_joins 25 = .ok (.aload_n 0, 1) := by decide +kernel
theorem dX11_joins_26 : decode cX11_joins 26 = .ok (.dup, 1) := by decide +kernel
theorem dX11_joins_27 : decode cX11_joins 27 = .ok (.getfield 540, 3) := by decide +kernel
theorem dX11_joins_30 : decode cX11_joins 30 = .ok (.iconst 2, 1) := by decide +kernel
theorem dX11_joins_31 : decode cX11_joins 31 = .ok (.isub, 1) := by decide +kernel
theorem dX11_joins_32 : decode cX11_joins 32 = .ok (.putfield 540, 3) := by decide +kernel
theorem dX11_joins_35 : decode cX11_joins 35 = .ok (.iload_n 1, 1) := by decide +kernel
theorem dX11_joins_36 : decode cX11_joins 36 = .ok (.tableswitch 235 1 14 #[72, 86, 100, 114, 127, 147, 235, 235, 235, 235, 167, 186, 205, 224], 72) := by decide +kernel
theorem dX11_joins_108 : decode cX11_joins 108 = .ok (.aload_n 0, 1) := by decide +kernel
theorem dX11_joins_109 : decode cX11_joins 109 = .ok (.lload 4, 2) := by decide +kernel
theorem dX11_joins_111 : decode cX11_joins 111 = .ok (.lload_n 2, 1) := by decide +kernel
theorem dX11_joins_112 : decode cX11_joins 112 = .ok (.ladd, 1) := by decide +kernel
theorem dX11_joins_113 : decode cX11_joins 113 = .ok (.invokestatic 543, 3) := by decide +kernel
theorem dX11_joins_116 : decode cX11_joins 116 = .ok (.invokevirtual 547, 3) := by decide +kernel
theorem dX11_joins_119 : decode cX11_joins 119 = .ok (.goto 170, 3) := by decide +kernel
theorem dX11_joins_122 : decode cX11_joins 122 = .ok (.aload_n 0, 1) := by decide +kernel
theorem dX11_joins_123 : decode cX11_joins 123 = .ok (.lload 4, 2) := by decide +kernel
theorem dX11_joins_125 : decode cX11_joins 125 = .ok (.lload_n 2, 1) := by decide +kernel
theorem dX11_joins_126 : decode cX11_joins 126 = .ok (.lsub, 1) := by decide +kernel
theorem dX11_joins_127 : decode cX11_joins 127 = .ok (.invokestatic 543, 3) := by decide +kernel
theorem dX11_joins_130 : decode cX11_joins 130 = .ok (.invokevirtual 547, 3) := by decide +kernel
theorem dX11_joins_133 : decode cX11_joins 133 = .ok (.goto 156, 3) := by decide +kernel
theorem dX11_joins_136 : decode cX11_joins 136 = .ok (.aload_n 0, 1) := by decide +kernel
theorem dX11_joins_137 : decode cX11_joins 137 = .ok (.lload 4, 2) := by decide +kernel
theorem dX11_joins_139 : decode cX11_joins 139 = .ok (.lload_n 2, 1) := by decide +kernel
theorem dX11_joins_140 : decode cX11_joins 140 = .ok (.lmul, 1) := by decide +kernel
theorem dX11_joins_141 : decode cX11_joins 141 = .ok (.invokestatic 543, 3) := by decide +kernel
theorem dX11_joins_144 : decode cX11_joins 144 = .ok (.invokevirtual 547, 3) := by decide +kernel
theorem dX11_joins_147 : decode cX11_joins 147 = .ok (.goto 142, 3) := by decide +kernel
theorem dX11_joins_150 : decode cX11_joins 150 = .ok (.aload_n 0, 1) := by decide +kernel
theorem dX11_joins_151 : decode cX11_joins 151 = .ok (.lload 4, 2) := by decide +kernel
theorem dX11_joins_153 : decode cX11_joins 153 = .ok (.lload_n 2, 1) := by decide +kernel
theorem dX11_joins_154 : decode cX11_joins 154 = .ok (.invokestatic 551, 3) := by decide +kernel
theorem dX11_joins_157 : decode cX11_joins 157 = .ok (.invokevirtual 547, 3) := by decide +kernel
theorem dX11_joins_160 : decode cX11_joins 160 = .ok (.goto 129, 3) := by decide +kernel
theorem dX11_joins_163 : decode cX11_joins 163 = .ok (.aload_n 0, 1) := by decide +kernel
theorem dX11_joins_164 : decode cX11_joins 164 = .ok (.lload 4, 2) := by decide +kernel
theorem dX11_joins_166 : decode cX11_joins 166 = .ok (.lload_n 2, 1) := by decide +kernel
theorem dX11_joins_167 : decode cX11_joins 167 = .ok (.lcmp, 1) := by decide +kernel
theorem dX11_joins_168 : decode cX11_joins 168 = .ok (.ifCond .ge 8, 3) := by decide +kernel
theorem dX11_joins_171 : decode cX11_joins 171 = .ok (.lload 4, 2) := by decide +kernel
theorem dX11_joins_173 : decode cX11_joins 173 = .ok (.goto 4, 3) := by decide +kernel
theorem dX11_joins_176 : decode cX11_joins 176 = .ok (.lload_n 2, 1) := by decide +kernel
theorem dX11_joins_177 : decode cX11_joins 177 = .ok (.invokevirtual 547, 3) := by decide +kernel
theorem dX11_joins_180 : decode cX11_joins 180 = .ok (.goto 109, 3) := by decide +kernel
theorem dX11_joins_183 : decode cX11_joins 183 = .ok (.aload_n 0, 1) := by decide +kernel
theorem dX11_joins_184 : decode cX11_joins 184 = .ok (.lload 4, 2) := by decide +kernel
theorem dX11_joins_186 : decode cX11_joins 186 = .ok (.lload_n 2, 1) := by decide +kernel
theorem dX11_joins_187 : decode cX11_joins 187 = .ok (.lcmp, 1) := by decide +kernel
theorem dX11_joins_188 : decode cX11_joins 188 = .ok (.ifCond .le 8, 3) := by decide +kernel
theorem dX11_joins_191 : decode cX11_joins 191 = .ok (.lload 4, 2) := by decide +kernel
theorem dX11_joins_193 : decode cX11_joins 193 = .ok (.goto 4, 3) := by decide +kernel
theorem dX11_joins_196 : decode cX11_joins 196 = .ok (.lload_n 2, 1) := by decide +kernel
theorem dX11_joins_197 : decode cX11_joins 197 = .ok (.invokevirtual 547, 3) := by decide +kernel
theorem dX11_joins_200 : decode cX11_joins 200 = .ok (.goto 89, 3) := by decide +kernel
theorem dX11_joins_203 : decode cX11_joins 203 = .ok (.aload_n 0, 1) := by decide +kernel
theorem dX11_joins_204 : decode cX11_joins 204 = .ok (.lload 4, 2) := by decide +kernel
theorem dX11_joins_206 : decode cX11_joins 206 = .ok (.lload_n 2, 1) := by decide +kernel
theorem dX11_joins_207 : decode cX11_joins 207 = .ok (.lcmp, 1) := by decide +kernel
theorem dX11_joins_208 : decode cX11_joins 208 = .ok (.ifCond .ge 7, 3) := by decide +kernel
theorem dX11_joins_211 : decode cX11_joins 211 = .ok (.lconst 1, 1) := by decide +kernel
theorem dX11_joins_212 : decode cX11_joins 212 = .ok (.goto 4, 3) := by decide +kernel
theorem dX11_joins_215 : decode cX11_joins 215 = .ok (.lconst 0, 1) := by decide +kernel
theorem dX11_joins_216 : decode cX11_joins 216 = .ok (.invokevirtual 547, 3) := by decide +kernel
theorem dX11_joins_219 : decode cX11_joins 219 = .ok (.goto 70, 3) := by decide +kernel
theorem dX11_joins_222 : decode cX11_joins 222 = .ok (.aload_n 0, 1) := by decide +kernel
theorem dX11_joins_223 : decode cX11_joins 223 = .ok (.lload 4, 2) := by decide +kernel
theorem dX11_joins_225 : decode cX11_joins 225 = .ok (.lload_n 2, 1) := by decide +kernel
theorem dX11_joins_226 : decode cX11_joins 226 = .ok (.lcmp, 1) := by decide +kernel
theorem dX11_joins_227 : decode cX11_joins 227 = .ok (.ifCond .le 7, 3) := by decide +kernel
theorem dX11_joins_230 : decode cX11_joins 230 = .ok (.lconst 1, 1) := by decide +kernel
theorem dX11_joins_231 : decode cX11_joins 231 = .ok (.goto 4, 3) := by decide +kernel
theorem dX11_joins_234 : decode cX11_joins 234 = .ok (.lconst 0, 1) := by decide +kernel
theorem dX11_joins_235 : decode cX11_joins 235 = .ok (.invokevirtual 547, 3) := by decide +kernel
theorem dX11_joins_238 : decode cX11_joins 238 = .ok (.goto 51, 3) := by decide +kernel
theorem dX11_joins_241 : decode cX11_joins 241 = .ok (.aload_n 0, 1) := by decide +kernel
theorem dX11_joins_242 : decode cX11_joins 242 = .ok (.lload 4, 2) := by decide +kernel
theorem dX11_joins_244 : decode cX11_joins 244 = .ok (.lload_n 2, 1) := by decide +kernel
theorem dX11_joins_245 : decode cX11_joins 245 = .ok (.lcmp, 1) := by decide +kernel
theorem dX11_joins_246 : decode cX11_joins 246 = .ok (.ifCond .ne 7, 3) := by decide +kernel
theorem dX11_joins_249 : decode cX11_joins 249 = .ok (.lconst 1, 1) := by decide +kernel
theorem dX11_joins_250 : decode cX11_joins 250 = .ok (.goto 4, 3) := by decide +kernel
theorem dX11_joins_253 : decode cX11_joins 253 = .ok (.lconst 0, 1) := by decide +kernel
theorem dX11_joins_254 : decode cX11_joins 254 = .ok (.invokevirtual 547, 3) := by decide +kernel
theorem dX11_joins_257 : decode cX11_joins 257 = .ok (.goto 32, 3) := by decide +kernel
theorem dX11_joins_260 : decode cX11_joins 260 = .ok (.aload_n 0, 1) := by decide +kernel
theorem dX11_joins_261 : decode cX11_joins 261 = .ok (.lload 4, 2) := by decide +kernel
theorem dX11_joins_263 : decode cX11_joins 263 = .ok (.lload_n 2, 1) := by decide +kernel
theorem dX11_joins_264 : decode cX11_joins 264 = .ok (.lmul, 1) := by decide +kernel
theorem dX11_joins_265 : decode cX11_joins 265 = .ok (.invokevirtual 547, 3) := by decide +kernel
theorem dX11_joins_268 : decode cX11_joins 268 = .ok (.goto 21, 3) := by decide +kernel
theorem dX11_joins_271 : decode cX11_joins 271 = .ok (.aload_n 0, 1) := by decide +kernel
theorem dX11_joins_272 : decode cX11_joins 272 = .ok (.lload 4, 2) := by decide +kernel
theorem dX11_joins_274 : decode cX11_joins 274 = .ok (.lload_n 2, 1) := by decide +kernel
theorem dX11_joins_275 : decode cX11_joins 275 = .ok (.ladd, 1) := by decide +kernel
theorem dX11_joins_276 : decode cX11_joins 276 = .ok (.lconst 0, 1) := by decide +kernel
theorem dX11_joins_277 : decode cX11_joins 277 = .ok (.lcmp, 1) := by decide +kernel
theorem dX11_joins_278 : decode cX11_joins 278 = .ok (.ifCond .le 7, 3) := by decide +kernel
theorem dX11_joins_281 : decode cX11_joins 281 = .ok (.lconst 1, 1) := by decide +kernel
theorem dX11_joins_282 : decode cX11_joins 282 = .ok (.goto 4, 3) := by decide +kernel
theorem dX11_joins_285 : decode cX11_joins 285 = .ok (.lconst 0, 1) := by decide +kernel
theorem dX11_joins_286 : decode cX11_joins 286 = .ok (.invokevirtual 547, 3) := by decide +kernel
theorem dX11_joins_289 : decode cX11_joins 289 = .ok (.return_, 1) := by decide +kernel
theorem dX11_told_0 : decode cX11_told 0 = .ok (.aload_n 0, 1) := by decide +kernel
theorem dX11_told_1 : decode cX11_told 1 = .ok (.iconst 0, 1) := by decide +kernel
theorem dX11_told_2 : decode cX11_told 2 = .ok (.putfield 540, 3) := by decide +kernel
theorem dX11_told_5 : decode cX11_told 5 = .ok (.iload_n 1, 1) := by decide +kernel
theorem dX11_told_6 : decode cX11_told 6 = .ok (.istore_n 3, 1) := by decide +kernel
theorem dX11_told_7 : decode cX11_told 7 = .ok (.iload_n 3, 1) := by decide +kernel
theorem dX11_told_8 : decode cX11_told 8 = .ok (.iload_n 2, 1) := by decide +kernel
theorem dX11_told_9 : decode cX11_told 9 = .ok (.if_icmp .ge 145, 3) := by decide +kernel
theorem dX11_told_12 : decode cX11_told 12 = .ok (.aload_n 0, 1) := by decide +kernel
theorem dX11_told_13 : decode cX11_told 13 = .ok (.getfield 145, 3) := by decide +kernel
theorem dX11_told_16 : decode cX11_told 16 = .ok (.iload_n 3, 1) := by decide +kernel
theorem dX11_told_17 : decode cX11_told 17 = .ok (.iaload, 1) := by decide +kernel
theorem dX11_told_18 : decode cX11_told 18 = .ok (.istore 4, 2) := by decide +kernel
theorem dX11_told_20 : decode cX11_told 20 = .ok (.iload 4, 2) := by decide +kernel
theorem dX11_told_22 : decode cX11_told 22 = .ok (.sipush 1000, 3) := by decide +kernel
theorem dX11_told_25 : decode cX11_told 25 = .ok (.if_icmp .lt 17, 3) := by decide +kernel
theorem dX11_told_28 : decode cX11_told 28 = .ok (.aload_n 0, 1) := by decide +kernel
theorem dX11_told_29 : decode cX11_told 29 = .ok (.iload 4, 2) := by decide +kernel
theorem dX11_told_31 : decode cX11_told 31 = .ok (.sipush 1000, 3) := by decide +kernel
theorem dX11_told_34 : decode cX11_told 34 = .ok (.isub, 1) := by decide +kernel
theorem dX11_told_35 : decode cX11_told 35 = .ok (.i2l, 1) := by decide +kernel
theorem dX11_told_36 : decode cX11_told 36 = .ok (.invokevirtual 547, 3) := by decide +kernel
theorem dX11_told_39 : decode cX11_told 39 = .ok (.goto 109, 3) := by decide +kernel
theorem dX11_told_42 : decode cX11_told 42 = .ok (.iload 4, 2) := by decide +kernel
theorem dX11_told_44 : decode cX11_told 44 = .ok (.bipush 17, 2) := by decide +kernel
theorem dX11_told_46 : decode cX11_told 46 = .ok (.if_icmp .ne 11, 3) := by decide +kernel
theorem dX11_told_49 : decode cX11_told 49 = .ok (.aload_n 0, 1) := by decide +kernel
theorem dX11_told_50 : decode cX11_told 50 = .ok (.lconst 1, 1) := by decide +kernel
theorem dX11_told_51 : decode cX11_told 51 = .ok (.invokevirtual 547, 3) := by decide +kernel
theorem dX11_told_54 : decode cX11_told 54 = .ok (.goto 94, 3) := by decide +kernel
theorem dX11_told_57 : decode cX11_told 57 = .ok (.iload 4, 2) := by decide +kernel
theorem dX11_told_59 : decode cX11_told 59 = .ok (.bipush 16, 2) := by decide +kernel
theorem dX11_told_61 : decode cX11_told 61 = .ok (.if_icmp .ne 30, 3) := by decide +kernel
theorem dX11_told_64 : decode cX11_told 64 = .ok (.aload_n 0, 1) := by decide +kernel
theorem dX11_told_65 : decode cX11_told 65 = .ok (.getfield 205, 3) := by decide +kernel
theorem dX11_told_68 : decode cX11_told 68 = .ok (.aload_n 0, 1) := by decide +kernel
theorem dX11_told_69 : decode cX11_told 69 = .ok (.getfield 540, 3) := by decide +kernel
theorem dX11_told_72 : decode cX11_told 72 = .ok (.iconst 1, 1) := by decide +kernel
theorem dX11_told_73 : decode cX11_told 73 = .ok (.isub, 1) := by decide +kernel
theorem dX11_told_74 : decode cX11_told 74 = .ok (.lconst 1, 1) := by decide +kernel
theorem dX11_told_75 : decode cX11_told 75 = .ok (.aload_n 0, 1) := by decide +kernel
theorem dX11_told_76 : decode cX11_told 76 = .ok (.getfield 205, 3) := by decide +kernel
theorem dX11_told_79 : decode cX11_told 79 = .ok (.aload_n 0, 1) := by decide +kernel
theorem dX11_told_80 : decode cX11_told 80 = .ok (.getfield 540, 3) := by decide +kernel
theorem dX11_told_83 : decode cX11_told 83 = .ok (.iconst 1, 1) := by decide +kernel
theorem dX11_told_84 : decode cX11_told 84 = .ok (.isub, 1) := by decide +kernel
theorem dX11_told_85 : decode cX11_told 85 = .ok (.laload, 1) := by decide +kernel
theorem dX11_told_86 : decode cX11_told 86 = .ok (.lsub, 1) := by decide +kernel
theorem dX11_told_87 : decode cX11_told 87 = .ok (.lastore, 1) := by decide +kernel
theorem dX11_told_88 : decode cX11_told 88 = .ok (.goto 60, 3) := by decide +kernel
theorem dX11_told_91 : decode cX11_told 91 = .ok (.iload 4, 2) := by decide +kernel
theorem dX11_told_93 : decode cX11_told 93 = .ok (.i2l, 1) := by decide +kernel
theorem dX11_told_94 : decode cX11_told 94 = .ok (.ldc2_w 555, 3) := by decide +kernel
theorem dX11_told_97 : decode cX11_told 97 = .ok (.ldc2_w 557, 3) := by decide +kernel
theorem dX11_told_100 : decode cX11_told 100 = .ok (.invokestatic 264, 3) := by decide +kernel
theorem dX11_told_103 : decode cX11_told 103 = .ok (.ifCond .ne 25, 3) := by decide +kernel
theorem dX11_told_106 : decode cX11_told 106 = .ok (.iload 4, 2) := by decide +kernel
theorem dX11_told_108 : decode cX11_told 108 = .ok (.bipush 18, 2) := by decide +kernel
theorem dX11_told_110 : decode cX11_told 110 = .ok (.if_icmp .eq 18, 3) := by decide +kernel
theorem dX11_told_113 : decode cX11_told 113 = .ok (.iload 4, 2) := by decide +kernel
theorem dX11_told_115 : decode cX11_told 115 = .ok (.i2l, 1) := by decide +kernel
theorem dX11_told_116 : decode cX11_told 116 = .ok (.ldc2_w 559, 3) := by decide +kernel
theorem dX11_told_119 : decode cX11_told 119 = .ok (.ldc2_w 561, 3) := by decide +kernel
theorem dX11_told_122 : decode cX11_told 122 = .ok (.invokestatic 264, 3) := by decide +kernel
theorem dX11_told_125 : decode cX11_told 125 = .ok (.ifCond .eq 17, 3) := by decide +kernel
theorem dX11_told_128 : decode cX11_told 128 = .ok (.aload_n 0, 1) := by decide +kernel
theorem dX11_told_129 : decode cX11_told 129 = .ok (.aload_n 0, 1) := by decide +kernel
theorem dX11_told_130 : decode cX11_told 130 = .ok (.iload 4, 2) := by decide +kernel
theorem dX11_told_132 : decode cX11_told 132 = .ok (.invokevirtual 563, 3) := by decide +kernel
theorem dX11_told_135 : decode cX11_told 135 = .ok (.i2l, 1) := by decide +kernel
theorem dX11_told_136 : decode cX11_told 136 = .ok (.invokevirtual 547, 3) := by decide +kernel
theorem dX11_told_139 : decode cX11_told 139 = .ok (.goto 9, 3) := by decide +kernel
theorem dX11_told_142 : decode cX11_told 142 = .ok (.aload_n 0, 1) := by decide +kernel
theorem dX11_told_143 : decode cX11_told 143 = .ok (.iload 4, 2) := by decide +kernel
theorem dX11_told_145 : decode cX11_told 145 = .ok (.invokevirtual 566, 3) := by decide +kernel
theorem dX11_told_148 : decode cX11_told 148 = .ok (.iinc 3 1, 3) := by decide +kernel
theorem dX11_told_151 : decode cX11_told 151 = .ok (.goto (-144), 3) := by decide +kernel
theorem dX11_told_154 : decode cX11_told 154 = .ok (.aload_n 0, 1) := by decide +kernel
theorem dX11_told_155 : decode cX11_told 155 = .ok (.getfield 205, 3) := by decide +kernel
theorem dX11_told_158 : decode cX11_told 158 = .ok (.iconst 0, 1) := by decide +kernel
theorem dX11_told_159 : decode cX11_told 159 = .ok (.laload, 1) := by decide +kernel
theorem dX11_told_160 : decode cX11_told 160 = .ok (.lreturn, 1) := by decide +kernel
theorem dX11_asked_0 : decode cX11_asked 0 = .ok (.aload_n 0, 1) := by decide +kernel
theorem dX11_asked_1 : decode cX11_asked 1 = .ok (.getfield 569, 3) := by decide +kernel
theorem dX11_asked_4 : decode cX11_asked 4 = .ok (.istore_n 2, 1) := by decide +kernel
theorem dX11_asked_5 : decode cX11_asked 5 = .ok (.aload_n 0, 1) := by decide +kernel
theorem dX11_asked_6 : decode cX11_asked 6 = .ok (.getfield 169, 3) := by decide +kernel
theorem dX11_asked_9 : decode cX11_asked 9 = .ok (.iload_n 2, 1) := by decide +kernel
theorem dX11_asked_10 : decode cX11_asked 10 = .ok (.iaload, 1) := by decide +kernel
theorem dX11_asked_11 : decode cX11_asked 11 = .ok (.istore_n 3, 1) := by decide +kernel
theorem dX11_asked_12 : decode cX11_asked 12 = .ok (.iload_n 1, 1) := by decide +kernel
theorem dX11_asked_13 : decode cX11_asked 13 = .ok (.tableswitch 193 7 31 #[115, 130, 137, 142, 193, 193, 193, 193, 193, 193, 193, 149, 193, 193, 193, 193, 193, 193, 193, 193, 193, 193, 193, 155, 162], 115) := by decide +kernel
theorem dX11_asked_128 : decode cX11_asked 128 = .ok (.iload_n 3, 1) := by decide +kernel
theorem dX11_asked_129 : decode cX11_asked 129 = .ok (.iconst (-1), 1) := by decide +kernel
theorem dX11_asked_130 : decode cX11_asked 130 = .ok (.if_icmp .ne 7, 3) := by decide +kernel
theorem dX11_asked_133 : decode cX11_asked 133 = .ok (.iconst 1, 1) := by decide +kernel
theorem dX11_asked_134 : decode cX11_asked 134 = .ok (.goto 8, 3) := by decide +kernel
theorem dX11_asked_137 : decode cX11_asked 137 = .ok (.aload_n 0, 1) := by decide +kernel
theorem dX11_asked_138 : decode cX11_asked 138 = .ok (.iload_n 3, 1) := by decide +kernel
theorem dX11_asked_139 : decode cX11_asked 139 = .ok (.invokevirtual 446, 3) := by decide +kernel
theorem dX11_asked_142 : decode cX11_asked 142 = .ok (.ireturn, 1) := by decide +kernel
theorem dX11_asked_143 : decode cX11_asked 143 = .ok (.aload_n 0, 1) := by decide +kernel
theorem dX11_asked_144 : decode cX11_asked 144 = .ok (.iload_n 2, 1) := by decide +kernel
theorem dX11_asked_145 : decode cX11_asked 145 = .ok (.iconst 0, 1) := by decide +kernel
theorem dX11_asked_146 : decode cX11_asked 146 = .ok (.invokevirtual 434, 3) := by decide +kernel
theorem dX11_asked_149 : decode cX11_asked 149 = .ok (.ireturn, 1) := by decide +kernel
theorem dX11_asked_150 : decode cX11_asked 150 = .ok (.aload_n 0, 1) := by decide +kernel
theorem dX11_asked_151 : decode cX11_asked 151 = .ok (.getfield 358, 3) := by decide +kernel
theorem dX11_asked_154 : decode cX11_asked 154 = .ok (.ireturn, 1) := by decide +kernel
theorem dX11_asked_155 : decode cX11_asked 155 = .ok (.aload_n 0, 1) := by decide +kernel
theorem dX11_asked_156 : decode cX11_asked 156 = .ok (.getfield 175, 3) := by decide +kernel
theorem dX11_asked_159 : decode cX11_asked 159 = .ok (.iload_n 2, 1) := by decide +kernel
theorem dX11_asked_160 : decode cX11_asked 160 = .ok (.iaload, 1) := by decide +kernel
theorem dX11_asked_161 : decode cX11_asked 161 = .ok (.ireturn, 1) := by decide +kernel
theorem dX11_asked_162 : decode cX11_asked 162 = .ok (.aload_n 0, 1) := by decide +kernel
theorem dX11_asked_163 : decode cX11_asked 163 = .ok (.iload_n 2, 1) := by decide +kernel
theorem dX11_asked_164 : decode cX11_asked 164 = .ok (.invokevirtual 469, 3) := by decide +kernel
theorem dX11_asked_167 : decode cX11_asked 167 = .ok (.ireturn, 1) := by decide +kernel
theorem dX11_asked_168 : decode cX11_asked 168 = .ok (.aload_n 0, 1) := by decide +kernel
theorem dX11_asked_169 : decode cX11_asked 169 = .ok (.getfield 178, 3) := by decide +kernel
theorem dX11_asked_172 : decode cX11_asked 172 = .ok (.iload_n 2, 1) := by decide +kernel
theorem dX11_asked_173 : decode cX11_asked 173 = .ok (.iaload, 1) := by decide +kernel
theorem dX11_asked_174 : decode cX11_asked 174 = .ok (.ireturn, 1) := by decide +kernel
theorem dX11_asked_175 : decode cX11_asked 175 = .ok (.iload_n 3, 1) := by decide +kernel
theorem dX11_asked_176 : decode cX11_asked 176 = .ok (.iconst (-1), 1) := by decide +kernel
theorem dX11_asked_177 : decode cX11_asked 177 = .ok (.if_icmp .eq 27, 3) := by decide +kernel
theorem dX11_asked_180 : decode cX11_asked 180 = .ok (.aload_n 0, 1) := by decide +kernel
theorem dX11_asked_181 : decode cX11_asked 181 = .ok (.iload_n 3, 1) := by decide +kernel
theorem dX11_asked_182 : decode cX11_asked 182 = .ok (.iconst 3, 1) := by decide +kernel
theorem dX11_asked_183 : decode cX11_asked 183 = .ok (.invokevirtual 440, 3) := by decide +kernel
theorem dX11_asked_186 : decode cX11_asked 186 = .ok (.iconst 1, 1) := by decide +kernel
theorem dX11_asked_187 : decode cX11_asked 187 = .ok (.if_icmp .ne 17, 3) := by decide +kernel
theorem dX11_asked_190 : decode cX11_asked 190 = .ok (.aload_n 0, 1) := by decide +kernel
theorem dX11_asked_191 : decode cX11_asked 191 = .ok (.getfield 187, 3) := by decide +kernel
theorem dX11_asked_194 : decode cX11_asked 194 = .ok (.iload_n 2, 1) := by decide +kernel
theorem dX11_asked_195 : decode cX11_asked 195 = .ok (.iaload, 1) := by decide +kernel
theorem dX11_asked_196 : decode cX11_asked 196 = .ok (.iload_n 2, 1) := by decide +kernel
theorem dX11_asked_197 : decode cX11_asked 197 = .ok (.if_icmp .ne 7, 3) := by decide +kernel
theorem dX11_asked_200 : decode cX11_asked 200 = .ok (.iconst 1, 1) := by decide +kernel
theorem dX11_asked_201 : decode cX11_asked 201 = .ok (.goto 4, 3) := by decide +kernel
theorem dX11_asked_204 : decode cX11_asked 204 = .ok (.iconst 0, 1) := by decide +kernel
theorem dX11_asked_205 : decode cX11_asked 205 = .ok (.ireturn, 1) := by decide +kernel
theorem dX11_asked_206 : decode cX11_asked 206 = .ok (.iload_n 3, 1) := by decide +kernel
theorem dX11_asked_207 : decode cX11_asked 207 = .ok (.iconst (-1), 1) := by decide +kernel
theorem dX11_asked_208 : decode cX11_asked 208 = .ok (.if_icmp .ne 8, 3) := by decide +kernel
theorem dX11_asked_211 : decode cX11_asked 211 = .ok (.bipush 100, 2) := by decide +kernel
theorem dX11_asked_213 : decode cX11_asked 213 = .ok (.goto 9, 3) := by decide +kernel
theorem dX11_asked_216 : decode cX11_asked 216 = .ok (.aload_n 0, 1) := by decide +kernel
theorem dX11_asked_217 : decode cX11_asked 217 = .ok (.iload_n 3, 1) := by decide +kernel
theorem dX11_asked_218 : decode cX11_asked 218 = .ok (.iconst 0, 1) := by decide +kernel
theorem dX11_asked_219 : decode cX11_asked 219 = .ok (.invokevirtual 440, 3) := by decide +kernel
theorem dX11_asked_222 : decode cX11_asked 222 = .ok (.ireturn, 1) := by decide +kernel
theorem dX11_seed_0 : decode cX11_seed 0 = .ok (.iload_n 1, 1) := by decide +kernel
theorem dX11_seed_1 : decode cX11_seed 1 = .ok (.ifCond .ge 5, 3) := by decide +kernel
theorem dX11_seed_4 : decode cX11_seed 4 = .ok (.iconst 0, 1) := by decide +kernel
theorem dX11_seed_5 : decode cX11_seed 5 = .ok (.ireturn, 1) := by decide +kernel
theorem dX11_seed_6 : decode cX11_seed 6 = .ok (.aload_n 0, 1) := by decide +kernel
theorem dX11_seed_7 : decode cX11_seed 7 = .ok (.iload_n 1, 1) := by decide +kernel
theorem dX11_seed_8 : decode cX11_seed 8 = .ok (.i2l, 1) := by decide +kernel
theorem dX11_seed_9 : decode cX11_seed 9 = .ok (.putfield 208, 3) := by decide +kernel
theorem dX11_seed_12 : decode cX11_seed 12 = .ok (.iconst 1, 1) := by decide +kernel
theorem dX11_seed_13 : decode cX11_seed 13 = .ok (.ireturn, 1) := by decide +kernel
theorem dX11_draw_0 : decode cX11_draw 0 = .ok (.aload_n 0, 1) := by decide +kernel
theorem dX11_draw_1 : decode cX11_draw 1 = .ok (.ldc2_w 572, 3) := by decide +kernel
theorem dX11_draw_4 : decode cX11_draw 4 = .ok (.aload_n 0, 1) := by decide +kernel
theorem dX11_draw_5 : decode cX11_draw 5 = .ok (.getfield 208, 3) := by decide +kernel
theorem dX11_draw_8 : decode cX11_draw 8 = .ok (.lmul, 1) := by decide +kernel
theorem dX11_draw_9 : decode cX11_draw 9 = .ok (.ldc2_w 574, 3) := by decide +kernel
theorem dX11_draw_12 : decode cX11_draw 12 = .ok (.ladd, 1) := by decide +kernel
theorem dX11_draw_13 : decode cX11_draw 13 = .ok (.ldc2_w 576, 3) := by decide +kernel
theorem dX11_draw_16 : decode cX11_draw 16 = .ok (.lrem, 1) := by decide +kernel
theorem dX11_draw_17 : decode cX11_draw 17 = .ok (.putfield 208, 3) := by decide +kernel
theorem dX11_draw_20 : decode cX11_draw 20 = .ok (.aload_n 0, 1) := by decide +kernel
theorem dX11_draw_21 : decode cX11_draw 21 = .ok (.getfield 208, 3) := by decide +kernel
theorem dX11_draw_24 : decode cX11_draw 24 = .ok (.ldc2_w 578, 3) := by decide +kernel
theorem dX11_draw_27 : decode cX11_draw 27 = .ok (.ldiv, 1) := by decide +kernel
theorem dX11_draw_28 : decode cX11_draw 28 = .ok (.iload_n 1, 1) := by decide +kernel
theorem dX11_draw_29 : decode cX11_draw 29 = .ok (.i2l, 1) := by decide +kernel
theorem dX11_draw_30 : decode cX11_draw 30 = .ok (.lrem, 1) := by decide +kernel
theorem dX11_draw_31 : decode cX11_draw 31 = .ok (.l2i, 1) := by decide +kernel
theorem dX11_draw_32 : decode cX11_draw 32 = .ok (.ireturn, 1) := by decide +kernel
theorem dX11_drawsFrom_0 : decode cX11_drawsFrom 0 = .ok (.iconst 0, 1) := by decide +kernel
theorem dX11_drawsFrom_1 : decode cX11_drawsFrom 1 = .ok (.istore_n 2, 1) := by decide +kernel
theorem dX11_drawsFrom_2 : decode cX11_drawsFrom 2 = .ok (.iconst 0, 1) := by decide +kernel
theorem dX11_drawsFrom_3 : decode cX11_drawsFrom 3 = .ok (.istore_n 3, 1) := by decide +kernel
theorem dX11_drawsFrom_4 : decode cX11_drawsFrom 4 = .ok (.iload_n 3, 1) := by decide +kernel
theorem dX11_drawsFrom_5 : decode cX11_drawsFrom 5 = .ok (.aload_n 0, 1) := by decide +kernel
theorem dX11_drawsFrom_6 : decode cX11_drawsFrom 6 = .ok (.invokevirtual 424, 3) := by decide +kernel
theorem dX11_drawsFrom_9 : decode cX11_drawsFrom 9 = .ok (.if_icmp .ge 32, 3) := by decide +kernel
theorem dX11_drawsFrom_12 : decode cX11_drawsFrom 12 = .ok (.aload_n 0, 1) := by decide +kernel
theorem dX11_drawsFrom_13 : decode cX11_drawsFrom 13 = .ok (.getfield 169, 3) := by decide +kernel
theorem dX11_drawsFrom_16 : decode cX11_drawsFrom 16 = .ok (.iload_n 3, 1) := by decide +kernel
theorem dX11_drawsFrom_17 : decode cX11_drawsFrom 17 = .ok (.iaload, 1) := by decide +kernel
theorem dX11_drawsFrom_18 : decode cX11_drawsFrom 18 = .ok (.iload_n 1, 1) := by decide +kernel
theorem dX11_drawsFrom_19 : decode cX11_drawsFrom 19 = .ok (.if_icmp .eq 6, 3) := by decide +kernel
theorem dX11_drawsFrom_22 : decode cX11_drawsFrom 22 = .ok (.goto 13, 3) := by decide +kernel
theorem dX11_drawsFrom_25 : decode cX11_drawsFrom 25 = .ok (.aload_n 0, 1) := by decide +kernel
theorem dX11_drawsFrom_26 : decode cX11_drawsFrom 26 = .ok (.getfield 212, 3) := by decide +kernel
theorem dX11_drawsFrom_29 : decode cX11_drawsFrom 29 = .ok (.iload_n 2, 1) := by decide +kernel
theorem dX11_drawsFrom_30 : decode cX11_drawsFrom 30 = .ok (.iload_n 3, 1) := by decide +kernel
theorem dX11_drawsFrom_31 : decode cX11_drawsFrom 31 = .ok (.iastore, 1) := by decide +kernel
theorem dX11_drawsFrom_32 : decode cX11_drawsFrom 32 = .ok (.iinc 2 1, 3) := by decide +kernel
theorem dX11_drawsFrom_35 : decode cX11_drawsFrom 35 = .ok (.iinc 3 1, 3) := by decide +kernel
theorem dX11_drawsFrom_38 : decode cX11_drawsFrom 38 = .ok (.goto (-34), 3) := by decide +kernel
theorem dX11_drawsFrom_41 : decode cX11_drawsFrom 41 = .ok (.iconst 0, 1) := by decide +kernel
theorem dX11_drawsFrom_42 : decode cX11_drawsFrom 42 = .ok (.istore_n 3, 1) := by decide +kernel
theorem dX11_drawsFrom_43 : decode cX11_drawsFrom 43 = .ok (.iload_n 3, 1) := by decide +kernel
theorem dX11_drawsFrom_44 : decode cX11_drawsFrom 44 = .ok (.aload_n 0, 1) := by decide +kernel
theorem dX11_drawsFrom_45 : decode cX11_drawsFrom 45 = .ok (.invokevirtual 424, 3) := by decide +kernel
theorem dX11_drawsFrom_48 : decode cX11_drawsFrom 48 = .ok (.if_icmp .ge 77, 3) := by decide +kernel
theorem dX11_drawsFrom_51 : decode cX11_drawsFrom 51 = .ok (.aload_n 0, 1) := by decide +kernel
theorem dX11_drawsFrom_52 : decode cX11_drawsFrom 52 = .ok (.getfield 169, 3) := by decide +kernel
theorem dX11_drawsFrom_55 : decode cX11_drawsFrom 55 = .ok (.iload_n 3, 1) := by decide +kernel
theorem dX11_drawsFrom_56 : decode cX11_drawsFrom 56 = .ok (.iaload, 1) := by decide +kernel
theorem dX11_drawsFrom_57 : decode cX11_drawsFrom 57 = .ok (.iload_n 1, 1) := by decide +kernel
theorem dX11_drawsFrom_58 : decode cX11_drawsFrom 58 = .ok (.if_icmp .eq 6, 3) := by decide +kernel
theorem dX11_drawsFrom_61 : decode cX11_drawsFrom 61 = .ok (.goto 58, 3) := by decide +kernel
theorem dX11_drawsFrom_64 : decode cX11_drawsFrom 64 = .ok (.aload_n 0, 1) := by decide +kernel
theorem dX11_drawsFrom_65 : decode cX11_drawsFrom 65 = .ok (.iload_n 2, 1) := by decide +kernel
theorem dX11_drawsFrom_66 : decode cX11_drawsFrom 66 = .ok (.invokevirtual 580, 3) := by decide +kernel
theorem dX11_drawsFrom_69 : decode cX11_drawsFrom 69 = .ok (.istore 4, 2) := by decide +kernel
theorem dX11_drawsFrom_71 : decode cX11_drawsFrom 71 = .ok (.aload_n 0, 1) := by decide +kernel
theorem dX11_drawsFrom_72 : decode cX11_drawsFrom 72 = .ok (.getfield 187, 3) := by decide +kernel
theorem dX11_drawsFrom_75 : decode cX11_drawsFrom 75 = .ok (.iload_n 3, 1) := by decide +kernel
theorem dX11_drawsFrom_76 : decode cX11_drawsFrom 76 = .ok (.aload_n 0, 1) := by decide +kernel
theorem dX11_drawsFrom_77 : decode cX11_drawsFrom 77 = .ok (.getfield 212, 3) := by decide +kernel
theorem dX11_drawsFrom_80 : decode cX11_drawsFrom 80 = .ok (.iload 4, 2) := by decide +kernel
theorem dX11_drawsFrom_82 : decode cX11_drawsFrom 82 = .ok (.iaload, 1) := by decide +kernel
theorem dX11_drawsFrom_83 : decode cX11_drawsFrom 83 = .ok (.iastore, 1) := by decide +kernel
theorem dX11_drawsFrom_84 : decode cX11_drawsFrom 84 = .ok (.iinc 2 (-1), 3) := by decide +kernel
theorem dX11_drawsFrom_87 : decode cX11_drawsFrom 87 = .ok (.iload 4, 2) := by decide +kernel
theorem dX11_drawsFrom_89 : decode cX11_drawsFrom 89 = .ok (.istore 5, 2) := by decide +kernel
theorem dX11_drawsFrom_91 : decode cX11_drawsFrom 91 = .ok (.iload 5, 2) := by decide +kernel
theorem dX11_drawsFrom_93 : decode cX11_drawsFrom 93 = .ok (.iload_n 2, 1) := by decide +kernel
theorem dX11_drawsFrom_94 : decode cX11_drawsFrom 94 = .ok (.if_icmp .ge 25, 3) := by decide +kernel
theorem dX11_drawsFrom_97 : decode cX11_drawsFrom 97 = .ok (.aload_n 0, 1) := by decide +kernel
theorem dX11_drawsFrom_98 : decode cX11_drawsFrom 98 = .ok (.getfield 212, 3) := by decide +kernel
theorem dX11_drawsFrom_101 : decode cX11_drawsFrom 101 = .ok (.iload 5, 2) := by decide +kernel
theorem dX11_drawsFrom_103 : decode cX11_drawsFrom 103 = .ok (.aload_n 0, 1) := by decide +kernel
theorem dX11_drawsFrom_104 : decode cX11_drawsFrom 104 = .ok (.getfield 212, 3) := by decide +kernel
theorem dX11_drawsFrom_107 : decode cX11_drawsFrom 107 = .ok (.iload 5, 2) := by decide +kernel
theorem dX11_drawsFrom_109 : decode cX11_drawsFrom 109 = .ok (.iconst 1, 1) := by decide +kernel
theorem dX11_drawsFrom_110 : decode cX11_drawsFrom 110 = .ok (.iadd, 1) := by decide +kernel
theorem dX11_drawsFrom_111 : decode cX11_drawsFrom 111 = .ok (.iaload, 1) := by decide +kernel
theorem dX11_drawsFrom_112 : decode cX11_drawsFrom 112 = .ok (.iastore, 1) := by decide +kernel
theorem dX11_drawsFrom_113 : decode cX11_drawsFrom 113 = .ok (.iinc 5 1, 3) := by decide +kernel
theorem dX11_drawsFrom_116 : decode cX11_drawsFrom 116 = .ok (.goto (-25), 3) := by decide +kernel
theorem dX11_drawsFrom_119 : decode cX11_drawsFrom 119 = .ok (.iinc 3 1, 3) := by decide +kernel
theorem dX11_drawsFrom_122 : decode cX11_drawsFrom 122 = .ok (.goto (-79), 3) := by decide +kernel
theorem dX11_drawsFrom_125 : decode cX11_drawsFrom 125 = .ok (.return_, 1) := by decide +kernel
theorem dX11_drawsAll_0 : decode cX11_drawsAll 0 = .ok (.iconst 0, 1) := by decide +kernel
theorem dX11_drawsAll_1 : decode cX11_drawsAll 1 = .ok (.istore_n 2, 1) := by decide +kernel
theorem dX11_drawsAll_2 : decode cX11_drawsAll 2 = .ok (.iload_n 2, 1) := by decide +kernel
theorem dX11_drawsAll_3 : decode cX11_drawsAll 3 = .ok (.aload_n 0, 1) := by decide +kernel
theorem dX11_drawsAll_4 : decode cX11_drawsAll 4 = .ok (.invokevirtual 427, 3) := by decide +kernel
theorem dX11_drawsAll_7 : decode cX11_drawsAll 7 = .ok (.if_icmp .ge 24, 3) := by decide +kernel
theorem dX11_drawsAll_10 : decode cX11_drawsAll 10 = .ok (.aload_n 0, 1) := by decide +kernel
theorem dX11_drawsAll_11 : decode cX11_drawsAll 11 = .ok (.iload_n 2, 1) := by decide +kernel
theorem dX11_drawsAll_12 : decode cX11_drawsAll 12 = .ok (.iconst 3, 1) := by decide +kernel
theorem dX11_drawsAll_13 : decode cX11_drawsAll 13 = .ok (.invokevirtual 440, 3) := by decide +kernel
theorem dX11_drawsAll_16 : decode cX11_drawsAll 16 = .ok (.iload_n 1, 1) := by decide +kernel
theorem dX11_drawsAll_17 : decode cX11_drawsAll 17 = .ok (.if_icmp .ne 8, 3) := by decide +kernel
theorem dX11_drawsAll_20 : decode cX11_drawsAll 20 = .ok (.aload_n 0, 1) := by decide +kernel
theorem dX11_drawsAll_21 : decode cX11_drawsAll 21 = .ok (.iload_n 2, 1) := by decide +kernel
theorem dX11_drawsAll_22 : decode cX11_drawsAll 22 = .ok (.invokevirtual 583, 3) := by decide +kernel
theorem dX11_drawsAll_25 : decode cX11_drawsAll 25 = .ok (.iinc 2 1, 3) := by decide +kernel
theorem dX11_drawsAll_28 : decode cX11_drawsAll 28 = .ok (.goto (-26), 3) := by decide +kernel
theorem dX11_drawsAll_31 : decode cX11_drawsAll 31 = .ok (.return_, 1) := by decide +kernel
theorem dX11_ruledHours_0 : decode cX11_ruledHours 0 = .ok (.aload_n 0, 1) := by decide +kernel
theorem dX11_ruledHours_1 : decode cX11_ruledHours 1 = .ok (.iload_n 1, 1) := by decide +kernel
theorem dX11_ruledHours_2 : decode cX11_ruledHours 2 = .ok (.putfield 569, 3) := by decide +kernel
theorem dX11_ruledHours_5 : decode cX11_ruledHours 5 = .ok (.iconst 0, 1) := by decide +kernel
theorem dX11_ruledHours_6 : decode cX11_ruledHours 6 = .ok (.istore_n 2, 1) := by decide +kernel
theorem dX11_ruledHours_7 : decode cX11_ruledHours 7 = .ok (.iload_n 2, 1) := by decide +kernel
theorem dX11_ruledHours_8 : decode cX11_ruledHours 8 = .ok (.aload_n 0, 1) := by decide +kernel
theorem dX11_ruledHours_9 : decode cX11_ruledHours 9 = .ok (.getfield 151, 3) := by decide +kernel
theorem dX11_ruledHours_12 : decode cX11_ruledHours 12 = .ok (.iconst 0, 1) := by decide +kernel
theorem dX11_ruledHours_13 : decode cX11_ruledHours 13 = .ok (.iaload, 1) := by decide +kernel
theorem dX11_ruledHours_14 : decode cX11_ruledHours 14 = .ok (.if_icmp .ge 95, 3) := by decide +kernel
theorem dX11_ruledHours_17 : decode cX11_ruledHours 17 = .ok (.aload_n 0, 1) := by decide +kernel
theorem dX11_ruledHours_18 : decode cX11_ruledHours 18 = .ok (.getfield 154, 3) := by decide +kernel
theorem dX11_ruledHours_21 : decode cX11_ruledHours 21 = .ok (.iload_n 2, 1) := by decide +kernel
theorem dX11_ruledHours_22 : decode cX11_ruledHours 22 = .ok (.iaload, 1) := by decide +kernel
theorem dX11_ruledHours_23 : decode cX11_ruledHours 23 = .ok (.aload_n 0, 1) := by decide +kernel
theorem dX11_ruledHours_24 : decode cX11_ruledHours 24 = .ok (.getfield 166, 3) := by decide +kernel
theorem dX11_ruledHours_27 : decode cX11_ruledHours 27 = .ok (.iload_n 1, 1) := by decide +kernel
theorem dX11_ruledHours_28 : decode cX11_ruledHours 28 = .ok (.iaload, 1) := by decide +kernel
theorem dX11_ruledHours_29 : decode cX11_ruledHours 29 = .ok (.if_icmp .ne 74, 3) := by decide +kernel
theorem dX11_ruledHours_32 : decode cX11_ruledHours 32 = .ok (.aload_n 0, 1) := by decide +kernel
theorem dX11_ruledHours_33 : decode cX11_ruledHours 33 = .ok (.aload_n 0, 1) := by decide +kernel
theorem dX11_ruledHours_34 : decode cX11_ruledHours 34 = .ok (.getfield 160, 3) := by decide +kernel
theorem dX11_ruledHours_37 : decode cX11_ruledHours 37 = .ok (.iload_n 2, 1) := by decide +kernel
theorem dX11_ruledHours_38 : decode cX11_ruledHours 38 = .ok (.iaload, 1) := by decide +kernel
theorem dX11_ruledHours_39 : decode cX11_ruledHours 39 = .ok (.aload_n 0, 1) := by decide +kernel
theorem dX11_ruledHours_40 : decode cX11_ruledHours 40 = .ok (.getfield 163, 3) := by decide +kernel
theorem dX11_ruledHours_43 : decode cX11_ruledHours 43 = .ok (.iload_n 2, 1) := by decide +kernel
theorem dX11_ruledHours_44 : decode cX11_ruledHours 44 = .ok (.iaload, 1) := by decide +kernel
theorem dX11_ruledHours_45 : decode cX11_ruledHours 45 = .ok (.invokevirtual 586, 3) := by decide +kernel
theorem dX11_ruledHours_48 : decode cX11_ruledHours 48 = .ok (.lconst 1, 1) := by decide +kernel
theorem dX11_ruledHours_49 : decode cX11_ruledHours 49 = .ok (.lcmp, 1) := by decide +kernel
theorem dX11_ruledHours_50 : decode cX11_ruledHours 50 = .ok (.ifCond .eq 6, 3) := by decide +kernel
theorem dX11_ruledHours_53 : decode cX11_ruledHours 53 = .ok (.goto 50, 3) := by decide +kernel
theorem dX11_ruledHours_56 : decode cX11_ruledHours 56 = .ok (.aload_n 0, 1) := by decide +kernel
theorem dX11_ruledHours_57 : decode cX11_ruledHours 57 = .ok (.aload_n 0, 1) := by decide +kernel
theorem dX11_ruledHours_58 : decode cX11_ruledHours 58 = .ok (.getfield 157, 3) := by decide +kernel
theorem dX11_ruledHours_61 : decode cX11_ruledHours 61 = .ok (.iload_n 2, 1) := by decide +kernel
theorem dX11_ruledHours_62 : decode cX11_ruledHours 62 = .ok (.iaload, 1) := by decide +kernel
theorem dX11_ruledHours_63 : decode cX11_ruledHours 63 = .ok (.aload_n 0, 1) := by decide +kernel
theorem dX11_ruledHours_64 : decode cX11_ruledHours 64 = .ok (.getfield 160, 3) := by decide +kernel
theorem dX11_ruledHours_67 : decode cX11_ruledHours 67 = .ok (.iload_n 2, 1) := by decide +kernel
theorem dX11_ruledHours_68 : decode cX11_ruledHours 68 = .ok (.iaload, 1) := by decide +kernel
theorem dX11_ruledHours_69 : decode cX11_ruledHours 69 = .ok (.invokevirtual 586, 3) := by decide +kernel
theorem dX11_ruledHours_72 : decode cX11_ruledHours 72 = .ok (.lstore_n 3, 1) := by decide +kernel
theorem dX11_ruledHours_73 : decode cX11_ruledHours 73 = .ok (.lload_n 3, 1) := by decide +kernel
theorem dX11_ruledHours_74 : decode cX11_ruledHours 74 = .ok (.lconst 0, 1) := by decide +kernel
theorem dX11_ruledHours_75 : decode cX11_ruledHours 75 = .ok (.lcmp, 1) := by decide +kernel
theorem dX11_ruledHours_76 : decode cX11_ruledHours 76 = .ok (.ifCond .ge 7, 3) := by decide +kernel
theorem dX11_ruledHours_79 : decode cX11_ruledHours 79 = .ok (.iconst 0, 1) := by decide +kernel
theorem dX11_ruledHours_80 : decode cX11_ruledHours 80 = .ok (.goto 22, 3) := by decide +kernel
theorem dX11_ruledHours_83 : decode cX11_ruledHours 83 = .ok (.lload_n 3, 1) := by decide +kernel
theorem dX11_ruledHours_84 : decode cX11_ruledHours 84 = .ok (.aload_n 0, 1) := by decide +kernel
theorem dX11_ruledHours_85 : decode cX11_ruledHours 85 = .ok (.getfield 142, 3) := by decide +kernel
theorem dX11_ruledHours_88 : decode cX11_ruledHours 88 = .ok (.i2l, 1) := by decide +kernel
theorem dX11_ruledHours_89 : decode cX11_ruledHours 89 = .ok (.lcmp, 1) := by decide +kernel
theorem dX11_ruledHours_90 : decode cX11_ruledHours 90 = .ok (.ifCond .le 10, 3) := by decide +kernel
theorem dX11_ruledHours_93 : decode cX11_ruledHours 93 = .ok (.aload_n 0, 1) := by decide +kernel
theorem dX11_ruledHours_94 : decode cX11_ruledHours 94 = .ok (.getfield 142, 3) := by decide +kernel
theorem dX11_ruledHours_97 : decode cX11_ruledHours 97 = .ok (.goto 5, 3) := by decide +kernel
theorem dX11_ruledHours_100 : decode cX11_ruledHours 100 = .ok (.lload_n 3, 1) := by decide +kernel
theorem dX11_ruledHours_101 : decode cX11_ruledHours 101 = .ok (.l2i, 1) := by decide +kernel
theorem dX11_ruledHours_102 : decode cX11_ruledHours 102 = .ok (.ireturn, 1) := by decide +kernel
theorem dX11_ruledHours_103 : decode cX11_ruledHours 103 = .ok (.iinc 2 1, 3) := by decide +kernel
theorem dX11_ruledHours_106 : decode cX11_ruledHours 106 = .ok (.goto (-99), 3) := by decide +kernel
theorem dX11_ruledHours_109 : decode cX11_ruledHours 109 = .ok (.aload_n 0, 1) := by decide +kernel
theorem dX11_ruledHours_110 : decode cX11_ruledHours 110 = .ok (.getfield 175, 3) := by decide +kernel
theorem dX11_ruledHours_113 : decode cX11_ruledHours 113 = .ok (.iload_n 1, 1) := by decide +kernel
theorem dX11_ruledHours_114 : decode cX11_ruledHours 114 = .ok (.iaload, 1) := by decide +kernel
theorem dX11_ruledHours_115 : decode cX11_ruledHours 115 = .ok (.ireturn, 1) := by decide +kernel
theorem dX11_drawnBy_0 : decode cX11_drawnBy 0 = .ok (.aload_n 0, 1) := by decide +kernel
theorem dX11_drawnBy_1 : decode cX11_drawnBy 1 = .ok (.getfield 169, 3) := by decide +kernel
theorem dX11_drawnBy_4 : decode cX11_drawnBy 4 = .ok (.iload_n 1, 1) := by decide +kernel
theorem dX11_drawnBy_5 : decode cX11_drawnBy 5 = .ok (.iaload, 1) := by decide +kernel
theorem dX11_drawnBy_6 : decode cX11_drawnBy 6 = .ok (.istore_n 2, 1) := by decide +kernel
theorem dX11_drawnBy_7 : decode cX11_drawnBy 7 = .ok (.iload_n 2, 1) := by decide +kernel
theorem dX11_drawnBy_8 : decode cX11_drawnBy 8 = .ok (.iconst (-1), 1) := by decide +kernel
theorem dX11_drawnBy_9 : decode cX11_drawnBy 9 = .ok (.if_icmp .ne 5, 3) := by decide +kernel
theorem dX11_drawnBy_12 : decode cX11_drawnBy 12 = .ok (.iconst 0, 1) := by decide +kernel
theorem dX11_drawnBy_13 : decode cX11_drawnBy 13 = .ok (.ireturn, 1) := by decide +kernel
theorem dX11_drawnBy_14 : decode cX11_drawnBy 14 = .ok (.aload_n 0, 1) := by decide +kernel
theorem dX11_drawnBy_15 : decode cX11_drawnBy 15 = .ok (.iload_n 2, 1) := by decide +kernel
theorem dX11_drawnBy_16 : decode cX11_drawnBy 16 = .ok (.iconst 3, 1) := by decide +kernel
theorem dX11_drawnBy_17 : decode cX11_drawnBy 17 = .ok (.invokevirtual 440, 3) := by decide +kernel
theorem dX11_drawnBy_20 : decode cX11_drawnBy 20 = .ok (.istore_n 3, 1) := by decide +kernel
theorem dX11_drawnBy_21 : decode cX11_drawnBy 21 = .ok (.iload_n 3, 1) := by decide +kernel
theorem dX11_drawnBy_22 : decode cX11_drawnBy 22 = .ok (.iconst 2, 1) := by decide +kernel
theorem dX11_drawnBy_23 : decode cX11_drawnBy 23 = .ok (.if_icmp .ne 15, 3) := by decide +kernel
theorem dX11_drawnBy_26 : decode cX11_drawnBy 26 = .ok (.aload_n 0, 1) := by decide +kernel
theorem dX11_drawnBy_27 : decode cX11_drawnBy 27 = .ok (.iload_n 2, 1) := by decide +kernel
theorem dX11_drawnBy_28 : decode cX11_drawnBy 28 = .ok (.invokevirtual 449, 3) := by decide +kernel
theorem dX11_drawnBy_31 : decode cX11_drawnBy 31 = .ok (.aload_n 0, 1) := by decide +kernel
theorem dX11_drawnBy_32 : decode cX11_drawnBy 32 = .ok (.iload_n 2, 1) := by decide +kernel
theorem dX11_drawnBy_33 : decode cX11_drawnBy 33 = .ok (.invokevirtual 446, 3) := by decide +kernel
theorem dX11_drawnBy_36 : decode cX11_drawnBy 36 = .ok (.idiv, 1) := by decide +kernel
theorem dX11_drawnBy_37 : decode cX11_drawnBy 37 = .ok (.ireturn, 1) := by decide +kernel
theorem dX11_drawnBy_38 : decode cX11_drawnBy 38 = .ok (.iload_n 3, 1) := by decide +kernel
theorem dX11_drawnBy_39 : decode cX11_drawnBy 39 = .ok (.iconst 3, 1) := by decide +kernel
theorem dX11_drawnBy_40 : decode cX11_drawnBy 40 = .ok (.if_icmp .ne 24, 3) := by decide +kernel
theorem dX11_drawnBy_43 : decode cX11_drawnBy 43 = .ok (.aload_n 0, 1) := by decide +kernel
theorem dX11_drawnBy_44 : decode cX11_drawnBy 44 = .ok (.iload_n 2, 1) := by decide +kernel
theorem dX11_drawnBy_45 : decode cX11_drawnBy 45 = .ok (.invokevirtual 449, 3) := by decide +kernel
theorem dX11_drawnBy_48 : decode cX11_drawnBy 48 = .ok (.aload_n 0, 1) := by decide +kernel
theorem dX11_drawnBy_49 : decode cX11_drawnBy 49 = .ok (.iload_n 1, 1) := by decide +kernel
theorem dX11_drawnBy_50 : decode cX11_drawnBy 50 = .ok (.iconst 4, 1) := by decide +kernel
theorem dX11_drawnBy_51 : decode cX11_drawnBy 51 = .ok (.invokevirtual 434, 3) := by decide +kernel
theorem dX11_drawnBy_54 : decode cX11_drawnBy 54 = .ok (.imul, 1) := by decide +kernel
theorem dX11_drawnBy_55 : decode cX11_drawnBy 55 = .ok (.aload_n 0, 1) := by decide +kernel
theorem dX11_drawnBy_56 : decode cX11_drawnBy 56 = .ok (.iload_n 2, 1) := by decide +kernel
theorem dX11_drawnBy_57 : decode cX11_drawnBy 57 = .ok (.invokevirtual 460, 3) := by decide +kernel
theorem dX11_drawnBy_60 : decode cX11_drawnBy 60 = .ok (.idiv, 1) := by decide +kernel
theorem dX11_drawnBy_61 : decode cX11_drawnBy 61 = .ok (.goto 13, 3) := by decide +kernel
theorem dX11_drawnBy_64 : decode cX11_drawnBy 64 = .ok (.aload_n 0, 1) := by decide +kernel
theorem dX11_drawnBy_65 : decode cX11_drawnBy 65 = .ok (.aload_n 0, 1) := by decide +kernel
theorem dX11_drawnBy_66 : decode cX11_drawnBy 66 = .ok (.getfield 187, 3) := by decide +kernel
theorem dX11_drawnBy_69 : decode cX11_drawnBy 69 = .ok (.iload_n 1, 1) := by decide +kernel
theorem dX11_drawnBy_70 : decode cX11_drawnBy 70 = .ok (.iaload, 1) := by decide +kernel
theorem dX11_drawnBy_71 : decode cX11_drawnBy 71 = .ok (.invokevirtual 443, 3) := by decide +kernel
theorem dX11_drawnBy_74 : decode cX11_drawnBy 74 = .ok (.ireturn, 1) := by decide +kernel
theorem dX11_cut_0 : decode cX11_cut 0 = .ok (.lload_n 0, 1) := by decide +kernel
theorem dX11_cut_1 : decode cX11_cut 1 = .ok (.ldc2_w 590, 3) := by decide +kernel
theorem dX11_cut_4 : decode cX11_cut 4 = .ok (.lcmp, 1) := by decide +kernel
theorem dX11_cut_5 : decode cX11_cut 5 = .ok (.ifCond .le 9, 3) := by decide +kernel
theorem dX11_cut_8 : decode cX11_cut 8 = .ok (.ldc_w 592, 3) := by decide +kernel
theorem dX11_cut_11 : decode cX11_cut 11 = .ok (.goto 5, 3) := by decide +kernel
theorem dX11_cut_14 : decode cX11_cut 14 = .ok (.lload_n 0, 1) := by decide +kernel
theorem dX11_cut_15 : decode cX11_cut 15 = .ok (.l2i, 1) := by decide +kernel
theorem dX11_cut_16 : decode cX11_cut 16 = .ok (.ireturn, 1) := by decide +kernel
theorem dX11_week_0 : decode cX11_week 0 = .ok (.iconst 0, 1) := by decide +kernel
theorem dX11_week_1 : decode cX11_week 1 = .ok (.istore_n 1, 1) := by decide +kernel
theorem dX11_week_2 : decode cX11_week 2 = .ok (.iload_n 1, 1) := by decide +kernel
theorem dX11_week_3 : decode cX11_week 3 = .ok (.aload_n 0, 1) := by decide +kernel
theorem dX11_week_4 : decode cX11_week 4 = .ok (.invokevirtual 424, 3) := by decide +kernel
theorem dX11_week_7 : decode cX11_week 7 = .ok (.if_icmp .ge 16, 3) := by decide +kernel
theorem dX11_week_10 : decode cX11_week 10 = .ok (.aload_n 0, 1) := by decide +kernel
theorem dX11_week_11 : decode cX11_week 11 = .ok (.getfield 187, 3) := by decide +kernel
theorem dX11_week_14 : decode cX11_week 14 = .ok (.iload_n 1, 1) := by decide +kernel
theorem dX11_week_15 : decode cX11_week 15 = .ok (.iconst (-1), 1) := by decide +kernel
theorem dX11_week_16 : decode cX11_week 16 = .ok (.iastore, 1) := by decide +kernel
theorem dX11_week_17 : decode cX11_week 17 = .ok (.iinc 1 1, 3) := by decide +kernel
theorem dX11_week_20 : decode cX11_week 20 = .ok (.goto (-18), 3) := by decide +kernel
theorem dX11_week_23 : decode cX11_week 23 = .ok (.aload_n 0, 1) := by decide +kernel
theorem dX11_week_24 : decode cX11_week 24 = .ok (.iconst 1, 1) := by decide +kernel
theorem dX11_week_25 : decode cX11_week 25 = .ok (.invokevirtual 593, 3) := by decide +kernel
theorem dX11_week_28 : decode cX11_week 28 = .ok (.iconst 0, 1) := by decide +kernel
theorem dX11_week_29 : decode cX11_week 29 = .ok (.istore_n 1, 1) := by decide +kernel
theorem dX11_week_30 : decode cX11_week 30 = .ok (.iload_n 1, 1) := by decide +kernel
theorem dX11_week_31 : decode cX11_week 31 = .ok (.aload_n 0, 1) := by decide +kernel
theorem dX11_week_32 : decode cX11_week 32 = .ok (.invokevirtual 424, 3) := by decide +kernel
theorem dX11_week_35 : decode cX11_week 35 = .ok (.if_icmp .ge 20, 3) := by decide +kernel
theorem dX11_week_38 : decode cX11_week 38 = .ok (.aload_n 0, 1) := by decide +kernel
theorem dX11_week_39 : decode cX11_week 39 = .ok (.getfield 215, 3) := by decide +kernel
theorem dX11_week_42 : decode cX11_week 42 = .ok (.iload_n 1, 1) := by decide +kernel
theorem dX11_week_43 : decode cX11_week 43 = .ok (.aload_n 0, 1) := by decide +kernel
theorem dX11_week_44 : decode cX11_week 44 = .ok (.iload_n 1, 1) := by decide +kernel
theorem dX11_week_45 : decode cX11_week 45 = .ok (.invokevirtual 596, 3) := by decide +kernel
theorem dX11_week_48 : decode cX11_week 48 = .ok (.iastore, 1) := by decide +kernel
theorem dX11_week_49 : decode cX11_week 49 = .ok (.iinc 1 1, 3) := by decide +kernel
theorem dX11_week_52 : decode cX11_week 52 = .ok (.goto (-22), 3) := by decide +kernel
theorem dX11_week_55 : decode cX11_week 55 = .ok (.iconst 0, 1) := by decide +kernel
theorem dX11_week_56 : decode cX11_week 56 = .ok (.istore_n 1, 1) := by decide +kernel
theorem dX11_week_57 : decode cX11_week 57 = .ok (.iload_n 1, 1) := by decide +kernel
theorem dX11_week_58 : decode cX11_week 58 = .ok (.aload_n 0, 1) := by decide +kernel
theorem dX11_week_59 : decode cX11_week 59 = .ok (.invokevirtual 424, 3) := by decide +kernel
theorem dX11_week_62 : decode cX11_week 62 = .ok (.if_icmp .ge 21, 3) := by decide +kernel
theorem dX11_week_65 : decode cX11_week 65 = .ok (.aload_n 0, 1) := by decide +kernel
theorem dX11_week_66 : decode cX11_week 66 = .ok (.getfield 175, 3) := by decide +kernel
theorem dX11_week_69 : decode cX11_week 69 = .ok (.iload_n 1, 1) := by decide +kernel
theorem dX11_week_70 : decode cX11_week 70 = .ok (.aload_n 0, 1) := by decide +kernel
theorem dX11_week_71 : decode cX11_week 71 = .ok (.getfield 215, 3) := by decide +kernel
theorem dX11_week_74 : decode cX11_week 74 = .ok (.iload_n 1, 1) := by decide +kernel
theorem dX11_week_75 : decode cX11_week 75 = .ok (.iaload, 1) := by decide +kernel
theorem dX11_week_76 : decode cX11_week 76 = .ok (.iastore, 1) := by decide +kernel
theorem dX11_week_77 : decode cX11_week 77 = .ok (.iinc 1 1, 3) := by decide +kernel
theorem dX11_week_80 : decode cX11_week 80 = .ok (.goto (-23), 3) := by decide +kernel
theorem dX11_week_83 : decode cX11_week 83 = .ok (.aload_n 0, 1) := by decide +kernel
theorem dX11_week_84 : decode cX11_week 84 = .ok (.iconst 0, 1) := by decide +kernel
theorem dX11_week_85 : decode cX11_week 85 = .ok (.invokevirtual 593, 3) := by decide +kernel
theorem dX11_week_88 : decode cX11_week 88 = .ok (.iconst 0, 1) := by decide +kernel
theorem dX11_week_89 : decode cX11_week 89 = .ok (.istore_n 1, 1) := by decide +kernel
theorem dX11_week_90 : decode cX11_week 90 = .ok (.iload_n 1, 1) := by decide +kernel
theorem dX11_week_91 : decode cX11_week 91 = .ok (.aload_n 0, 1) := by decide +kernel
theorem dX11_week_92 : decode cX11_week 92 = .ok (.invokevirtual 424, 3) := by decide +kernel
theorem dX11_week_95 : decode cX11_week 95 = .ok (.if_icmp .ge 20, 3) := by decide +kernel
theorem dX11_week_98 : decode cX11_week 98 = .ok (.aload_n 0, 1) := by decide +kernel
theorem dX11_week_99 : decode cX11_week 99 = .ok (.getfield 178, 3) := by decide +kernel
theorem dX11_week_102 : decode cX11_week 102 = .ok (.iload_n 1, 1) := by decide +kernel
theorem dX11_week_103 : decode cX11_week 103 = .ok (.aload_n 0, 1) := by decide +kernel
theorem dX11_week_104 : decode cX11_week 104 = .ok (.iload_n 1, 1) := by decide +kernel
theorem dX11_week_105 : decode cX11_week 105 = .ok (.invokevirtual 599, 3) := by decide +kernel
theorem dX11_week_108 : decode cX11_week 108 = .ok (.iastore, 1) := by decide +kernel
theorem dX11_week_109 : decode cX11_week 109 = .ok (.iinc 1 1, 3) := by decide +kernel
theorem dX11_week_112 : decode cX11_week 112 = .ok (.goto (-22), 3) := by decide +kernel
theorem dX11_week_115 : decode cX11_week 115 = .ok (.iconst 0, 1) := by decide +kernel
theorem dX11_week_116 : decode cX11_week 116 = .ok (.istore_n 1, 1) := by decide +kernel
theorem dX11_week_117 : decode cX11_week 117 = .ok (.iload_n 1, 1) := by decide +kernel
theorem dX11_week_118 : decode cX11_week 118 = .ok (.aload_n 0, 1) := by decide +kernel
theorem dX11_week_119 : decode cX11_week 119 = .ok (.invokevirtual 424, 3) := by decide +kernel
theorem dX11_week_122 : decode cX11_week 122 = .ok (.if_icmp .ge 81, 3) := by decide +kernel
theorem dX11_week_125 : decode cX11_week 125 = .ok (.aload_n 0, 1) := by decide +kernel
theorem dX11_week_126 : decode cX11_week 126 = .ok (.getfield 169, 3) := by decide +kernel
theorem dX11_week_129 : decode cX11_week 129 = .ok (.iload_n 1, 1) := by decide +kernel
theorem dX11_week_130 : decode cX11_week 130 = .ok (.iaload, 1) := by decide +kernel
theorem dX11_week_131 : decode cX11_week 131 = .ok (.istore_n 2, 1) := by decide +kernel
theorem dX11_week_132 : decode cX11_week 132 = .ok (.iload_n 2, 1) := by decide +kernel
theorem dX11_week_133 : decode cX11_week 133 = .ok (.iconst (-1), 1) := by decide +kernel
theorem dX11_week_134 : decode cX11_week 134 = .ok (.if_icmp .eq 63, 3) := by decide +kernel
theorem dX11_week_137 : decode cX11_week 137 = .ok (.aload_n 0, 1) := by decide +kernel
theorem dX11_week_138 : decode cX11_week 138 = .ok (.getfield 175, 3) := by decide +kernel
theorem dX11_week_141 : decode cX11_week 141 = .ok (.iload_n 1, 1) := by decide +kernel
theorem dX11_week_142 : decode cX11_week 142 = .ok (.iaload, 1) := by decide +kernel
theorem dX11_week_143 : decode cX11_week 143 = .ok (.aload_n 0, 1) := by decide +kernel
theorem dX11_week_144 : decode cX11_week 144 = .ok (.iload_n 2, 1) := by decide +kernel
theorem dX11_week_145 : decode cX11_week 145 = .ok (.iconst 1, 1) := by decide +kernel
theorem dX11_week_146 : decode cX11_week 146 = .ok (.invokevirtual 440, 3) := by decide +kernel
theorem dX11_week_149 : decode cX11_week 149 = .ok (.if_icmp .ge 48, 3) := by decide +kernel
theorem dX11_week_152 : decode cX11_week 152 = .ok (.aload_n 0, 1) := by decide +kernel
theorem dX11_week_153 : decode cX11_week 153 = .ok (.bipush 100, 2) := by decide +kernel
theorem dX11_week_155 : decode cX11_week 155 = .ok (.invokevirtual 580, 3) := by decide +kernel
theorem dX11_week_158 : decode cX11_week 158 = .ok (.aload_n 0, 1) := by decide +kernel
theorem dX11_week_159 : decode cX11_week 159 = .ok (.iload_n 2, 1) := by decide +kernel
theorem dX11_week_160 : decode cX11_week 160 = .ok (.iconst 2, 1) := by decide +kernel
theorem dX11_week_161 : decode cX11_week 161 = .ok (.invokevirtual 440, 3) := by decide +kernel
theorem dX11_week_164 : decode cX11_week 164 = .ok (.if_icmp .lt 6, 3) := by decide +kernel
theorem dX11_week_167 : decode cX11_week 167 = .ok (.goto 30, 3) := by decide +kernel
theorem dX11_week_170 : decode cX11_week 170 = .ok (.aload_n 0, 1) := by decide +kernel
theorem dX11_week_171 : decode cX11_week 171 = .ok (.aload_n 0, 1) := by decide +kernel
theorem dX11_week_172 : decode cX11_week 172 = .ok (.getfield 361, 3) := by decide +kernel
theorem dX11_week_175 : decode cX11_week 175 = .ok (.i2l, 1) := by decide +kernel
theorem dX11_week_176 : decode cX11_week 176 = .ok (.aload_n 0, 1) := by decide +kernel
theorem dX11_week_177 : decode cX11_week 177 = .ok (.getfield 178, 3) := by decide +kernel
theorem dX11_week_180 : decode cX11_week 180 = .ok (.iload_n 1, 1) := by decide +kernel
theorem dX11_week_181 : decode cX11_week 181 = .ok (.iaload, 1) := by decide +kernel
theorem dX11_week_182 : decode cX11_week 182 = .ok (.i2l, 1) := by decide +kernel
theorem dX11_week_183 : decode cX11_week 183 = .ok (.ladd, 1) := by decide +kernel
theorem dX11_week_184 : decode cX11_week 184 = .ok (.invokestatic 602, 3) := by decide +kernel
theorem dX11_week_187 : decode cX11_week 187 = .ok (.putfield 361, 3) := by decide +kernel
theorem dX11_week_190 : decode cX11_week 190 = .ok (.aload_n 0, 1) := by decide +kernel
theorem dX11_week_191 : decode cX11_week 191 = .ok (.getfield 178, 3) := by decide +kernel
theorem dX11_week_194 : decode cX11_week 194 = .ok (.iload_n 1, 1) := by decide +kernel
theorem dX11_week_195 : decode cX11_week 195 = .ok (.iconst 0, 1) := by decide +kernel
theorem dX11_week_196 : decode cX11_week 196 = .ok (.iastore, 1) := by decide +kernel
theorem dX11_week_197 : decode cX11_week 197 = .ok (.iinc 1 1, 3) := by decide +kernel
theorem dX11_week_200 : decode cX11_week 200 = .ok (.goto (-83), 3) := by decide +kernel
theorem dX11_week_203 : decode cX11_week 203 = .ok (.iconst 0, 1) := by decide +kernel
theorem dX11_week_204 : decode cX11_week 204 = .ok (.istore_n 1, 1) := by decide +kernel
theorem dX11_week_205 : decode cX11_week 205 = .ok (.iload_n 1, 1) := by decide +kernel
theorem dX11_week_206 : decode cX11_week 206 = .ok (.aload_n 0, 1) := by decide +kernel
theorem dX11_week_207 : decode cX11_week 207 = .ok (.getfield 355, 3) := by decide +kernel
theorem dX11_week_210 : decode cX11_week 210 = .ok (.if_icmp .ge 61, 3) := by decide +kernel
theorem dX11_week_213 : decode cX11_week 213 = .ok (.aload_n 0, 1) := by decide +kernel
theorem dX11_week_214 : decode cX11_week 214 = .ok (.getfield 190, 3) := by decide +kernel
theorem dX11_week_217 : decode cX11_week 217 = .ok (.iload_n 1, 1) := by decide +kernel
theorem dX11_week_218 : decode cX11_week 218 = .ok (.iaload, 1) := by decide +kernel
theorem dX11_week_219 : decode cX11_week 219 = .ok (.istore_n 2, 1) := by decide +kernel
theorem dX11_week_220 : decode cX11_week 220 = .ok (.aload_n 0, 1) := by decide +kernel
theorem dX11_week_221 : decode cX11_week 221 = .ok (.getfield 172, 3) := by decide +kernel
theorem dX11_week_224 : decode cX11_week 224 = .ok (.iload_n 2, 1) := by decide +kernel
theorem dX11_week_225 : decode cX11_week 225 = .ok (.iaload, 1) := by decide +kernel
theorem dX11_week_226 : decode cX11_week 226 = .ok (.istore_n 3, 1) := by decide +kernel
theorem dX11_week_227 : decode cX11_week 227 = .ok (.aload_n 0, 1) := by decide +kernel
theorem dX11_week_228 : decode cX11_week 228 = .ok (.getfield 178, 3) := by decide +kernel
theorem dX11_week_231 : decode cX11_week 231 = .ok (.iload_n 2, 1) := by decide +kernel
theorem dX11_week_232 : decode cX11_week 232 = .ok (.iaload, 1) := by decide +kernel
theorem dX11_week_233 : decode cX11_week 233 = .ok (.aload_n 0, 1) := by decide +kernel
theorem dX11_week_234 : decode cX11_week 234 = .ok (.getfield 178, 3) := by decide +kernel
theorem dX11_week_237 : decode cX11_week 237 = .ok (.iload_n 3, 1) := by decide +kernel
theorem dX11_week_238 : decode cX11_week 238 = .ok (.iaload, 1) := by decide +kernel
theorem dX11_week_239 : decode cX11_week 239 = .ok (.iadd, 1) := by decide +kernel
theorem dX11_week_240 : decode cX11_week 240 = .ok (.istore 4, 2) := by decide +kernel
theorem dX11_week_242 : decode cX11_week 242 = .ok (.aload_n 0, 1) := by decide +kernel
theorem dX11_week_243 : decode cX11_week 243 = .ok (.getfield 178, 3) := by decide +kernel
theorem dX11_week_246 : decode cX11_week 246 = .ok (.iload_n 3, 1) := by decide +kernel
theorem dX11_week_247 : decode cX11_week 247 = .ok (.iload 4, 2) := by decide +kernel
theorem dX11_week_249 : decode cX11_week 249 = .ok (.iconst 2, 1) := by decide +kernel
theorem dX11_week_250 : decode cX11_week 250 = .ok (.idiv, 1) := by decide +kernel
theorem dX11_week_251 : decode cX11_week 251 = .ok (.iastore, 1) := by decide +kernel
theorem dX11_week_252 : decode cX11_week 252 = .ok (.aload_n 0, 1) := by decide +kernel
theorem dX11_week_253 : decode cX11_week 253 = .ok (.getfield 178, 3) := by decide +kernel
theorem dX11_week_256 : decode cX11_week 256 = .ok (.iload_n 2, 1) := by decide +kernel
theorem dX11_week_257 : decode cX11_week 257 = .ok (.iload 4, 2) := by decide +kernel
theorem dX11_week_259 : decode cX11_week 259 = .ok (.iload 4, 2) := by decide +kernel
theorem dX11_week_261 : decode cX11_week 261 = .ok (.iconst 2, 1) := by decide +kernel
theorem dX11_week_262 : decode cX11_week 262 = .ok (.idiv, 1) := by decide +kernel
theorem dX11_week_263 : decode cX11_week 263 = .ok (.isub, 1) := by decide +kernel
theorem dX11_week_264 : decode cX11_week 264 = .ok (.iastore, 1) := by decide +kernel
theorem dX11_week_265 : decode cX11_week 265 = .ok (.iinc 1 1, 3) := by decide +kernel
theorem dX11_week_268 : decode cX11_week 268 = .ok (.goto (-63), 3) := by decide +kernel
theorem dX11_week_271 : decode cX11_week 271 = .ok (.iconst 0, 1) := by decide +kernel
theorem dX11_week_272 : decode cX11_week 272 = .ok (.istore_n 1, 1) := by decide +kernel
theorem dX11_week_273 : decode cX11_week 273 = .ok (.iconst 0, 1) := by decide +kernel
theorem dX11_week_274 : decode cX11_week 274 = .ok (.istore_n 2, 1) := by decide +kernel
theorem dX11_week_275 : decode cX11_week 275 = .ok (.iload_n 2, 1) := by decide +kernel
theorem dX11_week_276 : decode cX11_week 276 = .ok (.aload_n 0, 1) := by decide +kernel
theorem dX11_week_277 : decode cX11_week 277 = .ok (.invokevirtual 424, 3) := by decide +kernel
theorem dX11_week_280 : decode cX11_week 280 = .ok (.if_icmp .ge 45, 3) := by decide +kernel
theorem dX11_week_283 : decode cX11_week 283 = .ok (.aload_n 0, 1) := by decide +kernel
theorem dX11_week_284 : decode cX11_week 284 = .ok (.iload_n 2, 1) := by decide +kernel
theorem dX11_week_285 : decode cX11_week 285 = .ok (.invokevirtual 466, 3) := by decide +kernel
theorem dX11_week_288 : decode cX11_week 288 = .ok (.aload_n 0, 1) := by decide +kernel
theorem dX11_week_289 : decode cX11_week 289 = .ok (.getfield 178, 3) := by decide +kernel
theorem dX11_week_292 : decode cX11_week 292 = .ok (.iload_n 2, 1) := by decide +kernel
theorem dX11_week_293 : decode cX11_week 293 = .ok (.iaload, 1) := by decide +kernel
theorem dX11_week_294 : decode cX11_week 294 = .ok (.iadd, 1) := by decide +kernel
theorem dX11_week_295 : decode cX11_week 295 = .ok (.istore_n 3, 1) := by decide +kernel
theorem dX11_week_296 : decode cX11_week 296 = .ok (.aload_n 0, 1) := by decide +kernel
theorem dX11_week_297 : decode cX11_week 297 = .ok (.getfield 181, 3) := by decide +kernel
theorem dX11_week_300 : decode cX11_week 300 = .ok (.iload_n 2, 1) := by decide +kernel
theorem dX11_week_301 : decode cX11_week 301 = .ok (.aload_n 0, 1) := by decide +kernel
theorem dX11_week_302 : decode cX11_week 302 = .ok (.getfield 181, 3) := by decide +kernel
theorem dX11_week_305 : decode cX11_week 305 = .ok (.iload_n 2, 1) := by decide +kernel
theorem dX11_week_306 : decode cX11_week 306 = .ok (.iaload, 1) := by decide +kernel
theorem dX11_week_307 : decode cX11_week 307 = .ok (.i2l, 1) := by decide +kernel
theorem dX11_week_308 : decode cX11_week 308 = .ok (.iload_n 3, 1) := by decide +kernel
theorem dX11_week_309 : decode cX11_week 309 = .ok (.i2l, 1) := by decide +kernel
theorem dX11_week_310 : decode cX11_week 310 = .ok (.ladd, 1) := by decide +kernel
theorem dX11_week_311 : decode cX11_week 311 = .ok (.invokestatic 602, 3) := by decide +kernel
theorem dX11_week_314 : decode cX11_week 314 = .ok (.iastore, 1) := by decide +kernel
theorem dX11_week_315 : decode cX11_week 315 = .ok (.iload_n 1, 1) := by decide +kernel
theorem dX11_week_316 : decode cX11_week 316 = .ok (.iload_n 3, 1) := by decide +kernel
theorem dX11_week_317 : decode cX11_week 317 = .ok (.iadd, 1) := by decide +kernel
theorem dX11_week_318 : decode cX11_week 318 = .ok (.istore_n 1, 1) := by decide +kernel
theorem dX11_week_319 : decode cX11_week 319 = .ok (.iinc 2 1, 3) := by decide +kernel
theorem dX11_week_322 : decode cX11_week 322 = .ok (.goto (-47), 3) := by decide +kernel
theorem dX11_week_325 : decode cX11_week 325 = .ok (.aload_n 0, 1) := by decide +kernel
theorem dX11_week_326 : decode cX11_week 326 = .ok (.dup, 1) := by decide +kernel
theorem dX11_week_327 : decode cX11_week 327 = .ok (.getfield 358, 3) := by decide +kernel
theorem dX11_week_330 : decode cX11_week 330 = .ok (.iconst 1, 1) := by decide +kernel
theorem dX11_week_331 : decode cX11_week 331 = .ok (.iadd, 1) := by decide +kernel
theorem dX11_week_332 : decode cX11_week 332 = .ok (.putfield 358, 3) := by decide +kernel
theorem dX11_week_335 : decode cX11_week 335 = .ok (.iload_n 1, 1) := by decide +kernel
theorem dX11_week_336 : decode cX11_week 336 = .ok (.ireturn, 1) := by decide +kernel
theorem dX11_run_0 : decode cX11_run 0 = .ok (.iload_n 1, 1) := by decide +kernel
theorem dX11_run_1 : decode cX11_run 1 = .ok (.i2l, 1) := by decide +kernel
theorem dX11_run_2 : decode cX11_run 2 = .ok (.lconst 1, 1) := by decide +kernel
theorem dX11_run_3 : decode cX11_run 3 = .ok (.ldc2_w 497, 3) := by decide +kernel
theorem dX11_run_6 : decode cX11_run 6 = .ok (.invokestatic 264, 3) := by decide +kernel
theorem dX11_run_9 : decode cX11_run 9 = .ok (.ifCond .eq 15, 3) := by decide +kernel
theorem dX11_run_12 : decode cX11_run 12 = .ok (.aload_n 0, 1) := by decide +kernel
theorem dX11_run_13 : decode cX11_run 13 = .ok (.getfield 358, 3) := by decide +kernel
theorem dX11_run_16 : decode cX11_run 16 = .ok (.iload_n 1, 1) := by decide +kernel
theorem dX11_run_17 : decode cX11_run 17 = .ok (.iadd, 1) := by decide +kernel
theorem dX11_run_18 : decode cX11_run 18 = .ok (.sipush 9999, 3) := by decide +kernel
theorem dX11_run_21 : decode cX11_run 21 = .ok (.if_icmp .le 5, 3) := by decide +kernel
theorem dX11_run_24 : decode cX11_run 24 = .ok (.iconst (-1), 1) := by decide +kernel
theorem dX11_run_25 : decode cX11_run 25 = .ok (.ireturn, 1) := by decide +kernel
theorem dX11_run_26 : decode cX11_run 26 = .ok (.iconst 0, 1) := by decide +kernel
theorem dX11_run_27 : decode cX11_run 27 = .ok (.istore_n 2, 1) := by decide +kernel
theorem dX11_run_28 : decode cX11_run 28 = .ok (.iconst 0, 1) := by decide +kernel
theorem dX11_run_29 : decode cX11_run 29 = .ok (.istore_n 3, 1) := by decide +kernel
theorem dX11_run_30 : decode cX11_run 30 = .ok (.iload_n 3, 1) := by decide +kernel
theorem dX11_run_31 : decode cX11_run 31 = .ok (.iload_n 1, 1) := by decide +kernel
theorem dX11_run_32 : decode cX11_run 32 = .ok (.if_icmp .ge 16, 3) := by decide +kernel
theorem dX11_run_35 : decode cX11_run 35 = .ok (.iload_n 2, 1) := by decide +kernel
theorem dX11_run_36 : decode cX11_run 36 = .ok (.aload_n 0, 1) := by decide +kernel
theorem dX11_run_37 : decode cX11_run 37 = .ok (.invokevirtual 606, 3) := by decide +kernel
theorem dX11_run_40 : decode cX11_run 40 = .ok (.iadd, 1) := by decide +kernel
theorem dX11_run_41 : decode cX11_run 41 = .ok (.istore_n 2, 1) := by decide +kernel
theorem dX11_run_42 : decode cX11_run 42 = .ok (.iinc 3 1, 3) := by decide +kernel
theorem dX11_run_45 : decode cX11_run 45 = .ok (.goto (-15), 3) := by decide +kernel
theorem dX11_run_48 : decode cX11_run 48 = .ok (.iload_n 2, 1) := by decide +kernel
theorem dX11_run_49 : decode cX11_run 49 = .ok (.ireturn, 1) := by decide +kernel
theorem dX11_drew_0 : decode cX11_drew 0 = .ok (.aload_n 0, 1) := by decide +kernel
theorem dX11_drew_1 : decode cX11_drew 1 = .ok (.iload_n 1, 1) := by decide +kernel
theorem dX11_drew_2 : decode cX11_drew 2 = .ok (.invokevirtual 481, 3) := by decide +kernel
theorem dX11_drew_5 : decode cX11_drew 5 = .ok (.ifCond .eq 12, 3) := by decide +kernel
theorem dX11_drew_8 : decode cX11_drew 8 = .ok (.aload_n 0, 1) := by decide +kernel
theorem dX11_drew_9 : decode cX11_drew 9 = .ok (.getfield 187, 3) := by decide +kernel
theorem dX11_drew_12 : decode cX11_drew 12 = .ok (.iload_n 1, 1) := by decide +kernel
theorem dX11_drew_13 : decode cX11_drew 13 = .ok (.iaload, 1) := by decide +kernel
theorem dX11_drew_14 : decode cX11_drew 14 = .ok (.goto 4, 3) := by decide +kernel
theorem dX11_drew_17 : decode cX11_drew 17 = .ok (.iconst (-1), 1) := by decide +kernel
theorem dX11_drew_18 : decode cX11_drew 18 = .ok (.ireturn, 1) := by decide +kernel
theorem dX11_said_0 : decode cX11_said 0 = .ok (.aload_n 0, 1) := by decide +kernel
theorem dX11_said_1 : decode cX11_said 1 = .ok (.iload_n 1, 1) := by decide +kernel
theorem dX11_said_2 : decode cX11_said 2 = .ok (.invokevirtual 481, 3) := by decide +kernel
theorem dX11_said_5 : decode cX11_said 5 = .ok (.ifCond .eq 17, 3) := by decide +kernel
theorem dX11_said_8 : decode cX11_said 8 = .ok (.iload_n 2, 1) := by decide +kernel
theorem dX11_said_9 : decode cX11_said 9 = .ok (.i2l, 1) := by decide +kernel
theorem dX11_said_10 : decode cX11_said 10 = .ok (.lconst 0, 1) := by decide +kernel
theorem dX11_said_11 : decode cX11_said 11 = .ok (.aload_n 0, 1) := by decide +kernel
theorem dX11_said_12 : decode cX11_said 12 = .ok (.getfield 142, 3) := by decide +kernel
theorem dX11_said_15 : decode cX11_said 15 = .ok (.i2l, 1) := by decide +kernel
theorem dX11_said_16 : decode cX11_said 16 = .ok (.invokestatic 264, 3) := by decide +kernel
theorem dX11_said_19 : decode cX11_said 19 = .ok (.ifCond .ne 5, 3) := by decide +kernel
theorem dX11_said_22 : decode cX11_said 22 = .ok (.iconst 0, 1) := by decide +kernel
theorem dX11_said_23 : decode cX11_said 23 = .ok (.ireturn, 1) := by decide +kernel
theorem dX11_said_24 : decode cX11_said 24 = .ok (.aload_n 0, 1) := by decide +kernel
theorem dX11_said_25 : decode cX11_said 25 = .ok (.getfield 184, 3) := by decide +kernel
theorem dX11_said_28 : decode cX11_said 28 = .ok (.iload_n 1, 1) := by decide +kernel
theorem dX11_said_29 : decode cX11_said 29 = .ok (.iload_n 2, 1) := by decide +kernel
theorem dX11_said_30 : decode cX11_said 30 = .ok (.iastore, 1) := by decide +kernel
theorem dX11_said_31 : decode cX11_said 31 = .ok (.iconst 1, 1) := by decide +kernel
theorem dX11_said_32 : decode cX11_said 32 = .ok (.ireturn, 1) := by decide +kernel
theorem dX11_less_0 : decode cX11_less 0 = .ok (.iconst 0, 1) := by decide +kernel
theorem dX11_less_1 : decode cX11_less 1 = .ok (.istore_n 1, 1) := by decide +kernel
theorem dX11_less_2 : decode cX11_less 2 = .ok (.iconst 0, 1) := by decide +kernel
theorem dX11_less_3 : decode cX11_less 3 = .ok (.istore_n 2, 1) := by decide +kernel
theorem dX11_less_4 : decode cX11_less 4 = .ok (.iload_n 2, 1) := by decide +kernel
theorem dX11_less_5 : decode cX11_less 5 = .ok (.aload_n 0, 1) := by decide +kernel
theorem dX11_less_6 : decode cX11_less 6 = .ok (.invokevirtual 424, 3) := by decide +kernel
theorem dX11_less_9 : decode cX11_less 9 = .ok (.if_icmp .ge 30, 3) := by decide +kernel
theorem dX11_less_12 : decode cX11_less 12 = .ok (.aload_n 0, 1) := by decide +kernel
theorem dX11_less_13 : decode cX11_less 13 = .ok (.getfield 175, 3) := by decide +kernel
theorem dX11_less_16 : decode cX11_less 16 = .ok (.iload_n 2, 1) := by decide +kernel
theorem dX11_less_17 : decode cX11_less 17 = .ok (.iaload, 1) := by decide +kernel
theorem dX11_less_18 : decode cX11_less 18 = .ok (.aload_n 0, 1) := by decide +kernel
theorem dX11_less_19 : decode cX11_less 19 = .ok (.getfield 184, 3) := by decide +kernel
theorem dX11_less_22 : decode cX11_less 22 = .ok (.iload_n 2, 1) := by decide +kernel
theorem dX11_less_23 : decode cX11_less 23 = .ok (.iaload, 1) := by decide +kernel
theorem dX11_less_24 : decode cX11_less 24 = .ok (.if_icmp .ge 9, 3) := by decide +kernel
theorem dX11_less_27 : decode cX11_less 27 = .ok (.iload_n 1, 1) := by decide +kernel
theorem dX11_less_28 : decode cX11_less 28 = .ok (.iconst 1, 1) := by decide +kernel
theorem dX11_less_29 : decode cX11_less 29 = .ok (.iload_n 2, 1) := by decide +kernel
theorem dX11_less_30 : decode cX11_less 30 = .ok (.ishl, 1) := by decide +kernel
theorem dX11_less_31 : decode cX11_less 31 = .ok (.ior, 1) := by decide +kernel
theorem dX11_less_32 : decode cX11_less 32 = .ok (.istore_n 1, 1) := by decide +kernel
theorem dX11_less_33 : decode cX11_less 33 = .ok (.iinc 2 1, 3) := by decide +kernel
theorem dX11_less_36 : decode cX11_less 36 = .ok (.goto (-32), 3) := by decide +kernel
theorem dX11_less_39 : decode cX11_less 39 = .ok (.iload_n 1, 1) := by decide +kernel
theorem dX11_less_40 : decode cX11_less 40 = .ok (.ireturn, 1) := by decide +kernel
theorem dX11_writes_0 : decode cX11_writes 0 = .ok (.aload_n 0, 1) := by decide +kernel
theorem dX11_writes_1 : decode cX11_writes 1 = .ok (.getfield 218, 3) := by decide +kernel
theorem dX11_writes_4 : decode cX11_writes 4 = .ok (.aload_n 0, 1) := by decide +kernel
theorem dX11_writes_5 : decode cX11_writes 5 = .ok (.getfield 609, 3) := by decide +kernel
theorem dX11_writes_8 : decode cX11_writes 8 = .ok (.iload_n 1, 1) := by decide +kernel
theorem dX11_writes_9 : decode cX11_writes 9 = .ok (.iastore, 1) := by decide +kernel
theorem dX11_writes_10 : decode cX11_writes 10 = .ok (.aload_n 0, 1) := by decide +kernel
theorem dX11_writes_11 : decode cX11_writes 11 = .ok (.dup, 1) := by decide +kernel
theorem dX11_writes_12 : decode cX11_writes 12 = .ok (.getfield 609, 3) := by decide +kernel
theorem dX11_writes_15 : decode cX11_writes 15 = .ok (.iconst 1, 1) := by decide +kernel
theorem dX11_writes_16 : decode cX11_writes 16 = .ok (.iadd, 1) := by decide +kernel
theorem dX11_writes_17 : decode cX11_writes 17 = .ok (.putfield 609, 3) := by decide +kernel
theorem dX11_writes_20 : decode cX11_writes 20 = .ok (.return_, 1) := by decide +kernel
theorem dX11_writesTwo_0 : decode cX11_writesTwo 0 = .ok (.aload_n 0, 1) := by decide +kernel
theorem dX11_writesTwo_1 : decode cX11_writesTwo 1 = .ok (.iload_n 1, 1) := by decide +kernel
theorem dX11_writesTwo_2 : decode cX11_writesTwo 2 = .ok (.sipush 256, 3) := by decide +kernel
theorem dX11_writesTwo_5 : decode cX11_writesTwo 5 = .ok (.idiv, 1) := by decide +kernel
theorem dX11_writesTwo_6 : decode cX11_writesTwo 6 = .ok (.sipush 256, 3) := by decide +kernel
theorem dX11_writesTwo_9 : decode cX11_writesTwo 9 = .ok (.irem, 1) := by decide +kernel
theorem dX11_writesTwo_10 : decode cX11_writesTwo 10 = .ok (.invokevirtual 612, 3) := by decide +kernel
theorem dX11_writesTwo_13 : decode cX11_writesTwo 13 = .ok (.aload_n 0, 1) := by decide +kernel
theorem dX11_writesTwo_14 : decode cX11_writesTwo 14 = .ok (.iload_n 1, 1) := by decide +kernel
theorem dX11_writesTwo_15 : decode cX11_writesTwo 15 = .ok (.sipush 256, 3) := by decide +kernel
theorem dX11_writesTwo_18 : decode cX11_writesTwo 18 = .ok (.irem, 1) := by decide +kernel
theorem dX11_writesTwo_19 : decode cX11_writesTwo 19 = .ok (.invokevirtual 612, 3) := by decide +kernel
theorem dX11_writesTwo_22 : decode cX11_writesTwo 22 = .ok (.return_, 1) := by decide +kernel
theorem dX11_checked_0 : decode cX11_checked 0 = .ok (.bipush 21, 2) := by decide +kernel
theorem dX11_checked_2 : decode cX11_checked 2 = .ok (.istore_n 2, 1) := by decide +kernel
theorem dX11_checked_3 : decode cX11_checked 3 = .ok (.iconst 0, 1) := by decide +kernel
theorem dX11_checked_4 : decode cX11_checked 4 = .ok (.istore_n 3, 1) := by decide +kernel
theorem dX11_checked_5 : decode cX11_checked 5 = .ok (.iload_n 3, 1) := by decide +kernel
theorem dX11_checked_6 : decode cX11_checked 6 = .ok (.iload_n 1, 1) := by decide +kernel
theorem dX11_checked_7 : decode cX11_checked 7 = .ok (.if_icmp .ge 22, 3) := by decide +kernel
theorem dX11_checked_10 : decode cX11_checked 10 = .ok (.bipush 7, 2) := by decide +kernel
theorem dX11_checked_12 : decode cX11_checked 12 = .ok (.iload_n 2, 1) := by decide +kernel
theorem dX11_checked_13 : decode cX11_checked 13 = .ok (.imul, 1) := by decide +kernel
theorem dX11_checked_14 : decode cX11_checked 14 = .ok (.aload_n 0, 1) := by decide +kernel
theorem dX11_checked_15 : decode cX11_checked 15 = .ok (.iload_n 3, 1) := by decide +kernel
theorem dX11_checked_16 : decode cX11_checked 16 = .ok (.iaload, 1) := by decide +kernel
theorem dX11_checked_17 : decode cX11_checked 17 = .ok (.iadd, 1) := by decide +kernel
theorem dX11_checked_18 : decode cX11_checked 18 = .ok (.sipush 239, 3) := by decide +kernel
theorem dX11_checked_21 : decode cX11_checked 21 = .ok (.irem, 1) := by decide +kernel
theorem dX11_checked_22 : decode cX11_checked 22 = .ok (.istore_n 2, 1) := by decide +kernel
theorem dX11_checked_23 : decode cX11_checked 23 = .ok (.iinc 3 1, 3) := by decide +kernel
theorem dX11_checked_26 : decode cX11_checked 26 = .ok (.goto (-21), 3) := by decide +kernel
theorem dX11_checked_29 : decode cX11_checked 29 = .ok (.iload_n 2, 1) := by decide +kernel
theorem dX11_checked_30 : decode cX11_checked 30 = .ok (.ireturn, 1) := by decide +kernel
theorem dX11_image_0 : decode cX11_image 0 = .ok (.aload_n 0, 1) := by decide +kernel
theorem dX11_image_1 : decode cX11_image 1 = .ok (.iconst 0, 1) := by decide +kernel
theorem dX11_image_2 : decode cX11_image 2 = .ok (.putfield 609, 3) := by decide +kernel
theorem dX11_image_5 : decode cX11_image 5 = .ok (.aload_n 0, 1) := by decide +kernel
theorem dX11_image_6 : decode cX11_image 6 = .ok (.aload_n 0, 1) := by decide +kernel
theorem dX11_image_7 : decode cX11_image 7 = .ok (.invokevirtual 424, 3) := by decide +kernel
theorem dX11_image_10 : decode cX11_image 10 = .ok (.invokevirtual 612, 3) := by decide +kernel
theorem dX11_image_13 : decode cX11_image 13 = .ok (.iconst 0, 1) := by decide +kernel
theorem dX11_image_14 : decode cX11_image 14 = .ok (.istore_n 1, 1) := by decide +kernel
theorem dX11_image_15 : decode cX11_image 15 = .ok (.iload_n 1, 1) := by decide +kernel
theorem dX11_image_16 : decode cX11_image 16 = .ok (.aload_n 0, 1) := by decide +kernel
theorem dX11_image_17 : decode cX11_image 17 = .ok (.invokevirtual 424, 3) := by decide +kernel
theorem dX11_image_20 : decode cX11_image 20 = .ok (.if_icmp .ge 41, 3) := by decide +kernel
theorem dX11_image_23 : decode cX11_image 23 = .ok (.aload_n 0, 1) := by decide +kernel
theorem dX11_image_24 : decode cX11_image 24 = .ok (.aload_n 0, 1) := by decide +kernel
theorem dX11_image_25 : decode cX11_image 25 = .ok (.getfield 169, 3) := by decide +kernel
theorem dX11_image_28 : decode cX11_image 28 = .ok (.iload_n 1, 1) := by decide +kernel
theorem dX11_image_29 : decode cX11_image 29 = .ok (.iaload, 1) := by decide +kernel
theorem dX11_image_30 : decode cX11_image 30 = .ok (.iconst 1, 1) := by decide +kernel
theorem dX11_image_31 : decode cX11_image 31 = .ok (.iadd, 1) := by decide +kernel
theorem dX11_image_32 : decode cX11_image 32 = .ok (.invokevirtual 612, 3) := by decide +kernel
theorem dX11_image_35 : decode cX11_image 35 = .ok (.aload_n 0, 1) := by decide +kernel
theorem dX11_image_36 : decode cX11_image 36 = .ok (.aload_n 0, 1) := by decide +kernel
theorem dX11_image_37 : decode cX11_image 37 = .ok (.getfield 175, 3) := by decide +kernel
theorem dX11_image_40 : decode cX11_image 40 = .ok (.iload_n 1, 1) := by decide +kernel
theorem dX11_image_41 : decode cX11_image 41 = .ok (.iaload, 1) := by decide +kernel
theorem dX11_image_42 : decode cX11_image 42 = .ok (.invokevirtual 612, 3) := by decide +kernel
theorem dX11_image_45 : decode cX11_image 45 = .ok (.aload_n 0, 1) := by decide +kernel
theorem dX11_image_46 : decode cX11_image 46 = .ok (.aload_n 0, 1) := by decide +kernel
theorem dX11_image_47 : decode cX11_image 47 = .ok (.getfield 178, 3) := by decide +kernel
theorem dX11_image_50 : decode cX11_image 50 = .ok (.iload_n 1, 1) := by decide +kernel
theorem dX11_image_51 : decode cX11_image 51 = .ok (.iaload, 1) := by decide +kernel
theorem dX11_image_52 : decode cX11_image 52 = .ok (.invokevirtual 615, 3) := by decide +kernel
theorem dX11_image_55 : decode cX11_image 55 = .ok (.iinc 1 1, 3) := by decide +kernel
theorem dX11_image_58 : decode cX11_image 58 = .ok (.goto (-43), 3) := by decide +kernel
theorem dX11_image_61 : decode cX11_image 61 = .ok (.aload_n 0, 1) := by decide +kernel
theorem dX11_image_62 : decode cX11_image 62 = .ok (.aload_n 0, 1) := by decide +kernel
theorem dX11_image_63 : decode cX11_image 63 = .ok (.getfield 358, 3) := by decide +kernel
theorem dX11_image_66 : decode cX11_image 66 = .ok (.invokevirtual 615, 3) := by decide +kernel
theorem dX11_image_69 : decode cX11_image 69 = .ok (.aload_n 0, 1) := by decide +kernel
theorem dX11_image_70 : decode cX11_image 70 = .ok (.aload_n 0, 1) := by decide +kernel
theorem dX11_image_71 : decode cX11_image 71 = .ok (.getfield 218, 3) := by decide +kernel
theorem dX11_image_74 : decode cX11_image 74 = .ok (.aload_n 0, 1) := by decide +kernel
theorem dX11_image_75 : decode cX11_image 75 = .ok (.getfield 609, 3) := by decide +kernel
theorem dX11_image_78 : decode cX11_image 78 = .ok (.invokestatic 618, 3) := by decide +kernel
theorem dX11_image_81 : decode cX11_image 81 = .ok (.invokevirtual 612, 3) := by decide +kernel
theorem dX11_image_84 : decode cX11_image 84 = .ok (.aload_n 0, 1) := by decide +kernel
theorem dX11_image_85 : decode cX11_image 85 = .ok (.getfield 609, 3) := by decide +kernel
theorem dX11_image_88 : decode cX11_image 88 = .ok (.ireturn, 1) := by decide +kernel
theorem dX11_octet_0 : decode cX11_octet 0 = .ok (.iload_n 1, 1) := by decide +kernel
theorem dX11_octet_1 : decode cX11_octet 1 = .ok (.ifCond .lt 20, 3) := by decide +kernel
theorem dX11_octet_4 : decode cX11_octet 4 = .ok (.iload_n 1, 1) := by decide +kernel
theorem dX11_octet_5 : decode cX11_octet 5 = .ok (.aload_n 0, 1) := by decide +kernel
theorem dX11_octet_6 : decode cX11_octet 6 = .ok (.getfield 609, 3) := by decide +kernel
theorem dX11_octet_9 : decode cX11_octet 9 = .ok (.if_icmp .ge 12, 3) := by decide +kernel
theorem dX11_octet_12 : decode cX11_octet 12 = .ok (.aload_n 0, 1) := by decide +kernel
theorem dX11_octet_13 : decode cX11_octet 13 = .ok (.getfield 218, 3) := by decide +kernel
theorem dX11_octet_16 : decode cX11_octet 16 = .ok (.iload_n 1, 1) := by decide +kernel
theorem dX11_octet_17 : decode cX11_octet 17 = .ok (.iaload, 1) := by decide +kernel
theorem dX11_octet_18 : decode cX11_octet 18 = .ok (.goto 4, 3) := by decide +kernel
theorem dX11_octet_21 : decode cX11_octet 21 = .ok (.iconst (-1), 1) := by decide +kernel
theorem dX11_octet_22 : decode cX11_octet 22 = .ok (.ireturn, 1) := by decide +kernel
theorem dX11_twoAt_0 : decode cX11_twoAt 0 = .ok (.sipush 256, 3) := by decide +kernel
theorem dX11_twoAt_3 : decode cX11_twoAt 3 = .ok (.aload_n 0, 1) := by decide +kernel
theorem dX11_twoAt_4 : decode cX11_twoAt 4 = .ok (.getfield 7, 3) := by decide +kernel
theorem dX11_twoAt_7 : decode cX11_twoAt 7 = .ok (.iload_n 1, 1) := by decide +kernel
theorem dX11_twoAt_8 : decode cX11_twoAt 8 = .ok (.iaload, 1) := by decide +kernel
theorem dX11_twoAt_9 : decode cX11_twoAt 9 = .ok (.imul, 1) := by decide +kernel
theorem dX11_twoAt_10 : decode cX11_twoAt 10 = .ok (.aload_n 0, 1) := by decide +kernel
theorem dX11_twoAt_11 : decode cX11_twoAt 11 = .ok (.getfield 7, 3) := by decide +kernel
theorem dX11_twoAt_14 : decode cX11_twoAt 14 = .ok (.iload_n 1, 1) := by decide +kernel
theorem dX11_twoAt_15 : decode cX11_twoAt 15 = .ok (.iconst 1, 1) := by decide +kernel
theorem dX11_twoAt_16 : decode cX11_twoAt 16 = .ok (.iadd, 1) := by decide +kernel
theorem dX11_twoAt_17 : decode cX11_twoAt 17 = .ok (.iaload, 1) := by decide +kernel
theorem dX11_twoAt_18 : decode cX11_twoAt 18 = .ok (.iadd, 1) := by decide +kernel
theorem dX11_twoAt_19 : decode cX11_twoAt 19 = .ok (.ireturn, 1) := by decide +kernel
theorem dX11_isTold_0 : decode cX11_isTold 0 = .ok (.iload_n 1, 1) := by decide +kernel
theorem dX11_isTold_1 : decode cX11_isTold 1 = .ok (.iconst 4, 1) := by decide +kernel
theorem dX11_isTold_2 : decode cX11_isTold 2 = .ok (.iconst 4, 1) := by decide +kernel
theorem dX11_isTold_3 : decode cX11_isTold 3 = .ok (.aload_n 0, 1) := by decide +kernel
theorem dX11_isTold_4 : decode cX11_isTold 4 = .ok (.invokevirtual 424, 3) := by decide +kernel
theorem dX11_isTold_7 : decode cX11_isTold 7 = .ok (.imul, 1) := by decide +kernel
theorem dX11_isTold_8 : decode cX11_isTold 8 = .ok (.iadd, 1) := by decide +kernel
theorem dX11_isTold_9 : decode cX11_isTold 9 = .ok (.if_icmp .ne 37, 3) := by decide +kernel
theorem dX11_isTold_12 : decode cX11_isTold 12 = .ok (.aload_n 0, 1) := by decide +kernel
theorem dX11_isTold_13 : decode cX11_isTold 13 = .ok (.getfield 7, 3) := by decide +kernel
theorem dX11_isTold_16 : decode cX11_isTold 16 = .ok (.iconst 0, 1) := by decide +kernel
theorem dX11_isTold_17 : decode cX11_isTold 17 = .ok (.iaload, 1) := by decide +kernel
theorem dX11_isTold_18 : decode cX11_isTold 18 = .ok (.aload_n 0, 1) := by decide +kernel
theorem dX11_isTold_19 : decode cX11_isTold 19 = .ok (.invokevirtual 424, 3) := by decide +kernel
theorem dX11_isTold_22 : decode cX11_isTold 22 = .ok (.if_icmp .ne 24, 3) := by decide +kernel
theorem dX11_isTold_25 : decode cX11_isTold 25 = .ok (.aload_n 0, 1) := by decide +kernel
theorem dX11_isTold_26 : decode cX11_isTold 26 = .ok (.getfield 7, 3) := by decide +kernel
theorem dX11_isTold_29 : decode cX11_isTold 29 = .ok (.iload_n 1, 1) := by decide +kernel
theorem dX11_isTold_30 : decode cX11_isTold 30 = .ok (.iconst 1, 1) := by decide +kernel
theorem dX11_isTold_31 : decode cX11_isTold 31 = .ok (.isub, 1) := by decide +kernel
theorem dX11_isTold_32 : decode cX11_isTold 32 = .ok (.iaload, 1) := by decide +kernel
theorem dX11_isTold_33 : decode cX11_isTold 33 = .ok (.aload_n 0, 1) := by decide +kernel
theorem dX11_isTold_34 : decode cX11_isTold 34 = .ok (.getfield 7, 3) := by decide +kernel
theorem dX11_isTold_37 : decode cX11_isTold 37 = .ok (.iload_n 1, 1) := by decide +kernel
theorem dX11_isTold_38 : decode cX11_isTold 38 = .ok (.iconst 1, 1) := by decide +kernel
theorem dX11_isTold_39 : decode cX11_isTold 39 = .ok (.isub, 1) := by decide +kernel
theorem dX11_isTold_40 : decode cX11_isTold 40 = .ok (.invokestatic 618, 3) := by decide +kernel
theorem dX11_isTold_43 : decode cX11_isTold 43 = .ok (.if_icmp .eq 5, 3) := by decide +kernel
theorem dX11_isTold_46 : decode cX11_isTold 46 = .ok (.iconst 0, 1) := by decide +kernel
theorem dX11_isTold_47 : decode cX11_isTold 47 = .ok (.ireturn, 1) := by decide +kernel
theorem dX11_isTold_48 : decode cX11_isTold 48 = .ok (.iconst 0, 1) := by decide +kernel
theorem dX11_isTold_49 : decode cX11_isTold 49 = .ok (.istore_n 2, 1) := by decide +kernel
theorem dX11_isTold_50 : decode cX11_isTold 50 = .ok (.iload_n 2, 1) := by decide +kernel
theorem dX11_isTold_51 : decode cX11_isTold 51 = .ok (.aload_n 0, 1) := by decide +kernel
theorem dX11_isTold_52 : decode cX11_isTold 52 = .ok (.invokevirtual 424, 3) := by decide +kernel
theorem dX11_isTold_55 : decode cX11_isTold 55 = .ok (.if_icmp .ge 45, 3) := by decide +kernel
theorem dX11_isTold_58 : decode cX11_isTold 58 = .ok (.aload_n 0, 1) := by decide +kernel
theorem dX11_isTold_59 : decode cX11_isTold 59 = .ok (.getfield 7, 3) := by decide +kernel
theorem dX11_isTold_62 : decode cX11_isTold 62 = .ok (.iconst 1, 1) := by decide +kernel
theorem dX11_isTold_63 : decode cX11_isTold 63 = .ok (.iconst 4, 1) := by decide +kernel
theorem dX11_isTold_64 : decode cX11_isTold 64 = .ok (.iload_n 2, 1) := by decide +kernel
theorem dX11_isTold_65 : decode cX11_isTold 65 = .ok (.imul, 1) := by decide +kernel
theorem dX11_isTold_66 : decode cX11_isTold 66 = .ok (.iadd, 1) := by decide +kernel
theorem dX11_isTold_67 : decode cX11_isTold 67 = .ok (.iaload, 1) := by decide +kernel
theorem dX11_isTold_68 : decode cX11_isTold 68 = .ok (.aload_n 0, 1) := by decide +kernel
theorem dX11_isTold_69 : decode cX11_isTold 69 = .ok (.invokevirtual 427, 3) := by decide +kernel
theorem dX11_isTold_72 : decode cX11_isTold 72 = .ok (.if_icmp .gt 20, 3) := by decide +kernel
theorem dX11_isTold_75 : decode cX11_isTold 75 = .ok (.aload_n 0, 1) := by decide +kernel
theorem dX11_isTold_76 : decode cX11_isTold 76 = .ok (.getfield 7, 3) := by decide +kernel
theorem dX11_isTold_79 : decode cX11_isTold 79 = .ok (.iconst 2, 1) := by decide +kernel
theorem dX11_isTold_80 : decode cX11_isTold 80 = .ok (.iconst 4, 1) := by decide +kernel
theorem dX11_isTold_81 : decode cX11_isTold 81 = .ok (.iload_n 2, 1) := by decide +kernel
theorem dX11_isTold_82 : decode cX11_isTold 82 = .ok (.imul, 1) := by decide +kernel
theorem dX11_isTold_83 : decode cX11_isTold 83 = .ok (.iadd, 1) := by decide +kernel
theorem dX11_isTold_84 : decode cX11_isTold 84 = .ok (.iaload, 1) := by decide +kernel
theorem dX11_isTold_85 : decode cX11_isTold 85 = .ok (.aload_n 0, 1) := by decide +kernel
theorem dX11_isTold_86 : decode cX11_isTold 86 = .ok (.getfield 142, 3) := by decide +kernel
theorem dX11_isTold_89 : decode cX11_isTold 89 = .ok (.if_icmp .le 5, 3) := by decide +kernel
theorem dX11_isTold_92 : decode cX11_isTold 92 = .ok (.iconst 0, 1) := by decide +kernel
theorem dX11_isTold_93 : decode cX11_isTold 93 = .ok (.ireturn, 1) := by decide +kernel
theorem dX11_isTold_94 : decode cX11_isTold 94 = .ok (.iinc 2 1, 3) := by decide +kernel
theorem dX11_isTold_97 : decode cX11_isTold 97 = .ok (.goto (-47), 3) := by decide +kernel
theorem dX11_isTold_100 : decode cX11_isTold 100 = .ok (.aload_n 0, 1) := by decide +kernel
theorem dX11_isTold_101 : decode cX11_isTold 101 = .ok (.iconst 1, 1) := by decide +kernel
theorem dX11_isTold_102 : decode cX11_isTold 102 = .ok (.iconst 4, 1) := by decide +kernel
theorem dX11_isTold_103 : decode cX11_isTold 103 = .ok (.aload_n 0, 1) := by decide +kernel
theorem dX11_isTold_104 : decode cX11_isTold 104 = .ok (.invokevirtual 424, 3) := by decide +kernel
theorem dX11_isTold_107 : decode cX11_isTold 107 = .ok (.imul, 1) := by decide +kernel
theorem dX11_isTold_108 : decode cX11_isTold 108 = .ok (.iadd, 1) := by decide +kernel
theorem dX11_isTold_109 : decode cX11_isTold 109 = .ok (.invokevirtual 622, 3) := by decide +kernel
theorem dX11_isTold_112 : decode cX11_isTold 112 = .ok (.sipush 9999, 3) := by decide +kernel
theorem dX11_isTold_115 : decode cX11_isTold 115 = .ok (.if_icmp .gt 7, 3) := by decide +kernel
theorem dX11_isTold_118 : decode cX11_isTold 118 = .ok (.iconst 1, 1) := by decide +kernel
theorem dX11_isTold_119 : decode cX11_isTold 119 = .ok (.goto 4, 3) := by decide +kernel
theorem dX11_isTold_122 : decode cX11_isTold 122 = .ok (.iconst 0, 1) := by decide +kernel
theorem dX11_isTold_123 : decode cX11_isTold 123 = .ok (.ireturn, 1) := by decide +kernel
theorem dX11_on_0 : decode cX11_on 0 = .ok (.aload_n 0, 1) := by decide +kernel
theorem dX11_on_1 : decode cX11_on 1 = .ok (.getfield 221, 3) := by decide +kernel
theorem dX11_on_4 : decode cX11_on 4 = .ok (.istore_n 1, 1) := by decide +kernel
theorem dX11_on_5 : decode cX11_on 5 = .ok (.aload_n 0, 1) := by decide +kernel
theorem dX11_on_6 : decode cX11_on 6 = .ok (.iconst 0, 1) := by decide +kernel
theorem dX11_on_7 : decode cX11_on 7 = .ok (.putfield 221, 3) := by decide +kernel
theorem dX11_on_10 : decode cX11_on 10 = .ok (.aload_n 0, 1) := by decide +kernel
theorem dX11_on_11 : decode cX11_on 11 = .ok (.iload_n 1, 1) := by decide +kernel
theorem dX11_on_12 : decode cX11_on 12 = .ok (.invokevirtual 625, 3) := by decide +kernel
theorem dX11_on_15 : decode cX11_on 15 = .ok (.ifCond .ne 5, 3) := by decide +kernel
theorem dX11_on_18 : decode cX11_on 18 = .ok (.iconst 0, 1) := by decide +kernel
theorem dX11_on_19 : decode cX11_on 19 = .ok (.ireturn, 1) := by decide +kernel
theorem dX11_on_20 : decode cX11_on 20 = .ok (.iconst 0, 1) := by decide +kernel
theorem dX11_on_21 : decode cX11_on 21 = .ok (.istore_n 2, 1) := by decide +kernel
theorem dX11_on_22 : decode cX11_on 22 = .ok (.iload_n 2, 1) := by decide +kernel
theorem dX11_on_23 : decode cX11_on 23 = .ok (.aload_n 0, 1) := by decide +kernel
theorem dX11_on_24 : decode cX11_on 24 = .ok (.invokevirtual 424, 3) := by decide +kernel
theorem dX11_on_27 : decode cX11_on 27 = .ok (.if_icmp .ge 65, 3) := by decide +kernel
theorem dX11_on_30 : decode cX11_on 30 = .ok (.aload_n 0, 1) := by decide +kernel
theorem dX11_on_31 : decode cX11_on 31 = .ok (.getfield 169, 3) := by decide +kernel
theorem dX11_on_34 : decode cX11_on 34 = .ok (.iload_n 2, 1) := by decide +kernel
theorem dX11_on_35 : decode cX11_on 35 = .ok (.aload_n 0, 1) := by decide +kernel
theorem dX11_on_36 : decode cX11_on 36 = .ok (.getfield 7, 3) := by decide +kernel
theorem dX11_on_39 : decode cX11_on 39 = .ok (.iconst 1, 1) := by decide +kernel
theorem dX11_on_40 : decode cX11_on 40 = .ok (.iconst 4, 1) := by decide +kernel
theorem dX11_on_41 : decode cX11_on 41 = .ok (.iload_n 2, 1) := by decide +kernel
theorem dX11_on_42 : decode cX11_on 42 = .ok (.imul, 1) := by decide +kernel
theorem dX11_on_43 : decode cX11_on 43 = .ok (.iadd, 1) := by decide +kernel
theorem dX11_on_44 : decode cX11_on 44 = .ok (.iaload, 1) := by decide +kernel
theorem dX11_on_45 : decode cX11_on 45 = .ok (.iconst 1, 1) := by decide +kernel
theorem dX11_on_46 : decode cX11_on 46 = .ok (.isub, 1) := by decide +kernel
theorem dX11_on_47 : decode cX11_on 47 = .ok (.iastore, 1) := by decide +kernel
theorem dX11_on_48 : decode cX11_on 48 = .ok (.aload_n 0, 1) := by decide +kernel
theorem dX11_on_49 : decode cX11_on 49 = .ok (.getfield 175, 3) := by decide +kernel
theorem dX11_on_52 : decode cX11_on 52 = .ok (.iload_n 2, 1) := by decide +kernel
theorem dX11_on_53 : decode cX11_on 53 = .ok (.aload_n 0, 1) := by decide +kernel
theorem dX11_on_54 : decode cX11_on 54 = .ok (.getfield 7, 3) := by decide +kernel
theorem dX11_on_57 : decode cX11_on 57 = .ok (.iconst 2, 1) := by decide +kernel
theorem dX11_on_58 : decode cX11_on 58 = .ok (.iconst 4, 1) := by decide +kernel
theorem dX11_on_59 : decode cX11_on 59 = .ok (.iload_n 2, 1) := by decide +kernel
theorem dX11_on_60 : decode cX11_on 60 = .ok (.imul, 1) := by decide +kernel
theorem dX11_on_61 : decode cX11_on 61 = .ok (.iadd, 1) := by decide +kernel
theorem dX11_on_62 : decode cX11_on 62 = .ok (.iaload, 1) := by decide +kernel
theorem dX11_on_63 : decode cX11_on 63 = .ok (.iastore, 1) := by decide +kernel
theorem dX11_on_64 : decode cX11_on 64 = .ok (.aload_n 0, 1) := by decide +kernel
theorem dX11_on_65 : decode cX11_on 65 = .ok (.getfield 178, 3) := by decide +kernel
theorem dX11_on_68 : decode cX11_on 68 = .ok (.iload_n 2, 1) := by decide +kernel
theorem dX11_on_69 : decode cX11_on 69 = .ok (.aload_n 0, 1) := by decide +kernel
theorem dX11_on_70 : decode cX11_on 70 = .ok (.iconst 3, 1) := by decide +kernel
theorem dX11_on_71 : decode cX11_on 71 = .ok (.iconst 4, 1) := by decide +kernel
theorem dX11_on_72 : decode cX11_on 72 = .ok (.iload_n 2, 1) := by decide +kernel
theorem dX11_on_73 : decode cX11_on 73 = .ok (.imul, 1) := by decide +kernel
theorem dX11_on_74 : decode cX11_on 74 = .ok (.iadd, 1) := by decide +kernel
theorem dX11_on_75 : decode cX11_on 75 = .ok (.invokevirtual 622, 3) := by decide +kernel
theorem dX11_on_78 : decode cX11_on 78 = .ok (.iastore, 1) := by decide +kernel
theorem dX11_on_79 : decode cX11_on 79 = .ok (.aload_n 0, 1) := by decide +kernel
theorem dX11_on_80 : decode cX11_on 80 = .ok (.getfield 187, 3) := by decide +kernel
theorem dX11_on_83 : decode cX11_on 83 = .ok (.iload_n 2, 1) := by decide +kernel
theorem dX11_on_84 : decode cX11_on 84 = .ok (.iconst (-1), 1) := by decide +kernel
theorem dX11_on_85 : decode cX11_on 85 = .ok (.iastore, 1) := by decide +kernel
theorem dX11_on_86 : decode cX11_on 86 = .ok (.iinc 2 1, 3) := by decide +kernel
theorem dX11_on_89 : decode cX11_on 89 = .ok (.goto (-67), 3) := by decide +kernel
theorem dX11_on_92 : decode cX11_on 92 = .ok (.aload_n 0, 1) := by decide +kernel
theorem dX11_on_93 : decode cX11_on 93 = .ok (.aload_n 0, 1) := by decide +kernel
theorem dX11_on_94 : decode cX11_on 94 = .ok (.iconst 1, 1) := by decide +kernel
theorem dX11_on_95 : decode cX11_on 95 = .ok (.iconst 4, 1) := by decide +kernel
theorem dX11_on_96 : decode cX11_on 96 = .ok (.aload_n 0, 1) := by decide +kernel
theorem dX11_on_97 : decode cX11_on 97 = .ok (.invokevirtual 424, 3) := by decide +kernel
theorem dX11_on_100 : decode cX11_on 100 = .ok (.imul, 1) := by decide +kernel
theorem dX11_on_101 : decode cX11_on 101 = .ok (.iadd, 1) := by decide +kernel
theorem dX11_on_102 : decode cX11_on 102 = .ok (.invokevirtual 622, 3) := by decide +kernel
theorem dX11_on_105 : decode cX11_on 105 = .ok (.putfield 358, 3) := by decide +kernel
theorem dX11_on_108 : decode cX11_on 108 = .ok (.iconst 1, 1) := by decide +kernel
theorem dX11_on_109 : decode cX11_on 109 = .ok (.ireturn, 1) := by decide +kernel
theorem dJ9_floorDiv_7cf53_0 : decode cJ9_floorDiv_7cf53 0 = .ok (.iload_n 0, 1) := by decide +kernel
theorem dJ9_floorDiv_7cf53_1 : decode cJ9_floorDiv_7cf53 1 = .ok (.iload_n 1, 1) := by decide +kernel
theorem dJ9_floorDiv_7cf53_2 : decode cJ9_floorDiv_7cf53 2 = .ok (.idiv, 1) := by decide +kernel
theorem dJ9_floorDiv_7cf53_3 : decode cJ9_floorDiv_7cf53 3 = .ok (.istore_n 2, 1) := by decide +kernel
theorem dJ9_floorDiv_7cf53_4 : decode cJ9_floorDiv_7cf53 4 = .ok (.iload_n 0, 1) := by decide +kernel
theorem dJ9_floorDiv_7cf53_5 : decode cJ9_floorDiv_7cf53 5 = .ok (.iload_n 1, 1) := by decide +kernel
theorem dJ9_floorDiv_7cf53_6 : decode cJ9_floorDiv_7cf53 6 = .ok (.ixor, 1) := by decide +kernel
theorem dJ9_floorDiv_7cf53_7 : decode cJ9_floorDiv_7cf53 7 = .ok (.ifCond .ge 14, 3) := by decide +kernel
theorem dJ9_floorDiv_7cf53_10 : decode cJ9_floorDiv_7cf53 10 = .ok (.iload_n 2, 1) := by decide +kernel
theorem dJ9_floorDiv_7cf53_11 : decode cJ9_floorDiv_7cf53 11 = .ok (.iload_n 1, 1) := by decide +kernel
theorem dJ9_floorDiv_7cf53_12 : decode cJ9_floorDiv_7cf53 12 = .ok (.imul, 1) := by decide +kernel
theorem dJ9_floorDiv_7cf53_13 : decode cJ9_floorDiv_7cf53 13 = .ok (.iload_n 0, 1) := by decide +kernel
theorem dJ9_floorDiv_7cf53_14 : decode cJ9_floorDiv_7cf53 14 = .ok (.if_icmp .eq 7, 3) := by decide +kernel
theorem dJ9_floorDiv_7cf53_17 : decode cJ9_floorDiv_7cf53 17 = .ok (.iload_n 2, 1) := by decide +kernel
theorem dJ9_floorDiv_7cf53_18 : decode cJ9_floorDiv_7cf53 18 = .ok (.iconst 1, 1) := by decide +kernel
theorem dJ9_floorDiv_7cf53_19 : decode cJ9_floorDiv_7cf53 19 = .ok (.isub, 1) := by decide +kernel
theorem dJ9_floorDiv_7cf53_20 : decode cJ9_floorDiv_7cf53 20 = .ok (.ireturn, 1) := by decide +kernel
theorem dJ9_floorDiv_7cf53_21 : decode cJ9_floorDiv_7cf53 21 = .ok (.iload_n 2, 1) := by decide +kernel
theorem dJ9_floorDiv_7cf53_22 : decode cJ9_floorDiv_7cf53 22 = .ok (.ireturn, 1) := by decide +kernel
theorem dJ9_abs_0f7a4_0 : decode cJ9_abs_0f7a4 0 = .ok (.iload_n 0, 1) := by decide +kernel
theorem dJ9_abs_0f7a4_1 : decode cJ9_abs_0f7a4 1 = .ok (.ifCond .ge 8, 3) := by decide +kernel
theorem dJ9_abs_0f7a4_4 : decode cJ9_abs_0f7a4 4 = .ok (.iload_n 0, 1) := by decide +kernel
theorem dJ9_abs_0f7a4_5 : decode cJ9_abs_0f7a4 5 = .ok (.ineg, 1) := by decide +kernel
theorem dJ9_abs_0f7a4_6 : decode cJ9_abs_0f7a4 6 = .ok (.goto 4, 3) := by decide +kernel
theorem dJ9_abs_0f7a4_9 : decode cJ9_abs_0f7a4 9 = .ok (.iload_n 0, 1) := by decide +kernel
theorem dJ9_abs_0f7a4_10 : decode cJ9_abs_0f7a4 10 = .ok (.ireturn, 1) := by decide +kernel
theorem dJ9_max_7cf53_0 : decode cJ9_max_7cf53 0 = .ok (.iload_n 0, 1) := by decide +kernel
theorem dJ9_max_7cf53_1 : decode cJ9_max_7cf53 1 = .ok (.iload_n 1, 1) := by decide +kernel
theorem dJ9_max_7cf53_2 : decode cJ9_max_7cf53 2 = .ok (.if_icmp .lt 7, 3) := by decide +kernel
theorem dJ9_max_7cf53_5 : decode cJ9_max_7cf53 5 = .ok (.iload_n 0, 1) := by decide +kernel
theorem dJ9_max_7cf53_6 : decode cJ9_max_7cf53 6 = .ok (.goto 4, 3) := by decide +kernel
theorem dJ9_max_7cf53_9 : decode cJ9_max_7cf53 9 = .ok (.iload_n 1, 1) := by decide +kernel
theorem dJ9_max_7cf53_10 : decode cJ9_max_7cf53 10 = .ok (.ireturn, 1) := by decide +kernel
theorem dJ9_max_f86c9_0 : decode cJ9_max_f86c9 0 = .ok (.lload_n 0, 1) := by decide +kernel
theorem dJ9_max_f86c9_1 : decode cJ9_max_f86c9 1 = .ok (.lload_n 2, 1) := by decide +kernel
theorem dJ9_max_f86c9_2 : decode cJ9_max_f86c9 2 = .ok (.lcmp, 1) := by decide +kernel
theorem dJ9_max_f86c9_3 : decode cJ9_max_f86c9 3 = .ok (.ifCond .lt 7, 3) := by decide +kernel
theorem dJ9_max_f86c9_6 : decode cJ9_max_f86c9 6 = .ok (.lload_n 0, 1) := by decide +kernel
theorem dJ9_max_f86c9_7 : decode cJ9_max_f86c9 7 = .ok (.goto 4, 3) := by decide +kernel
theorem dJ9_max_f86c9_10 : decode cJ9_max_f86c9 10 = .ok (.lload_n 2, 1) := by decide +kernel
theorem dJ9_max_f86c9_11 : decode cJ9_max_f86c9 11 = .ok (.lreturn, 1) := by decide +kernel
theorem dJ9_min_7cf53_0 : decode cJ9_min_7cf53 0 = .ok (.iload_n 0, 1) := by decide +kernel
theorem dJ9_min_7cf53_1 : decode cJ9_min_7cf53 1 = .ok (.iload_n 1, 1) := by decide +kernel
theorem dJ9_min_7cf53_2 : decode cJ9_min_7cf53 2 = .ok (.if_icmp .gt 7, 3) := by decide +kernel
theorem dJ9_min_7cf53_5 : decode cJ9_min_7cf53 5 = .ok (.iload_n 0, 1) := by decide +kernel
theorem dJ9_min_7cf53_6 : decode cJ9_min_7cf53 6 = .ok (.goto 4, 3) := by decide +kernel
theorem dJ9_min_7cf53_9 : decode cJ9_min_7cf53 9 = .ok (.iload_n 1, 1) := by decide +kernel
theorem dJ9_min_7cf53_10 : decode cJ9_min_7cf53 10 = .ok (.ireturn, 1) := by decide +kernel
theorem dJ9_min_f86c9_0 : decode cJ9_min_f86c9 0 = .ok (.lload_n 0, 1) := by decide +kernel
theorem dJ9_min_f86c9_1 : decode cJ9_min_f86c9 1 = .ok (.lload_n 2, 1) := by decide +kernel
theorem dJ9_min_f86c9_2 : decode cJ9_min_f86c9 2 = .ok (.lcmp, 1) := by decide +kernel
theorem dJ9_min_f86c9_3 : decode cJ9_min_f86c9 3 = .ok (.ifCond .gt 7, 3) := by decide +kernel
theorem dJ9_min_f86c9_6 : decode cJ9_min_f86c9 6 = .ok (.lload_n 0, 1) := by decide +kernel
theorem dJ9_min_f86c9_7 : decode cJ9_min_f86c9 7 = .ok (.goto 4, 3) := by decide +kernel
theorem dJ9_min_f86c9_10 : decode cJ9_min_f86c9 10 = .ok (.lload_n 2, 1) := by decide +kernel
theorem dJ9_min_f86c9_11 : decode cJ9_min_f86c9 11 = .ok (.lreturn, 1) := by decide +kernel
theorem dJ0_length_8abf5_0 : decode cJ0_length_8abf5 0 = .ok (.aload_n 0, 1) := by decide +kernel
theorem dJ0_length_8abf5_1 : decode cJ0_length_8abf5 1 = .ok (.getfield 9, 3) := by decide +kernel
theorem dJ0_length_8abf5_4 : decode cJ0_length_8abf5 4 = .ok (.arraylength, 1) := by decide +kernel
theorem dJ0_length_8abf5_5 : decode cJ0_length_8abf5 5 = .ok (.aload_n 0, 1) := by decide +kernel
theorem dJ0_length_8abf5_6 : decode cJ0_length_8abf5 6 = .ok (.invokevirtual 335, 3) := by decide +kernel
theorem dJ0_length_8abf5_9 : decode cJ0_length_8abf5 9 = .ok (.ishr, 1) := by decide +kernel
theorem dJ0_length_8abf5_10 : decode cJ0_length_8abf5 10 = .ok (.ireturn, 1) := by decide +kernel
theorem dJ0_charAt_5068e_0 : decode cJ0_charAt_5068e 0 = .ok (.aload_n 0, 1) := by decide +kernel
theorem dJ0_charAt_5068e_1 : decode cJ0_charAt_5068e 1 = .ok (.invokevirtual 492, 3) := by decide +kernel
theorem dJ0_charAt_5068e_4 : decode cJ0_charAt_5068e 4 = .ok (.ifCond .eq 12, 3) := by decide +kernel
theorem dJ0_charAt_5068e_7 : decode cJ0_charAt_5068e 7 = .ok (.aload_n 0, 1) := by decide +kernel
theorem dJ0_charAt_5068e_8 : decode cJ0_charAt_5068e 8 = .ok (.getfield 9, 3) := by decide +kernel
theorem dJ0_charAt_5068e_11 : decode cJ0_charAt_5068e 11 = .ok (.iload_n 1, 1) := by decide +kernel
theorem dJ0_charAt_5068e_12 : decode cJ0_charAt_5068e 12 = .ok (.invokestatic 495, 3) := by decide +kernel
theorem dJ0_charAt_5068e_15 : decode cJ0_charAt_5068e 15 = .ok (.ireturn, 1) := by decide +kernel
theorem dJ0_charAt_5068e_16 : decode cJ0_charAt_5068e 16 = .ok (.aload_n 0, 1) := by decide +kernel
theorem dJ0_charAt_5068e_17 : decode cJ0_charAt_5068e 17 = .ok (.getfield 9, 3) := by decide +kernel
theorem dJ0_charAt_5068e_20 : decode cJ0_charAt_5068e 20 = .ok (.iload_n 1, 1) := by decide +kernel
theorem dJ0_charAt_5068e_21 : decode cJ0_charAt_5068e 21 = .ok (.invokestatic 498, 3) := by decide +kernel
theorem dJ0_charAt_5068e_24 : decode cJ0_charAt_5068e 24 = .ok (.ireturn, 1) := by decide +kernel
theorem dJ0_coder_7d493_0 : decode cJ0_coder_7d493 0 = .ok (.getstatic 38, 3) := by decide +kernel
theorem dJ0_coder_7d493_3 : decode cJ0_coder_7d493 3 = .ok (.ifCond .eq 10, 3) := by decide +kernel
theorem dJ0_coder_7d493_6 : decode cJ0_coder_7d493 6 = .ok (.aload_n 0, 1) := by decide +kernel
theorem dJ0_coder_7d493_7 : decode cJ0_coder_7d493 7 = .ok (.getfield 15, 3) := by decide +kernel
theorem dJ0_coder_7d493_10 : decode cJ0_coder_7d493 10 = .ok (.goto 4, 3) := by decide +kernel
theorem dJ0_coder_7d493_13 : decode cJ0_coder_7d493 13 = .ok (.iconst 1, 1) := by decide +kernel
theorem dJ0_coder_7d493_14 : decode cJ0_coder_7d493 14 = .ok (.ireturn, 1) := by decide +kernel
theorem dJ0_isLatin1_aae02_0 : decode cJ0_isLatin1_aae02 0 = .ok (.getstatic 38, 3) := by decide +kernel
theorem dJ0_isLatin1_aae02_3 : decode cJ0_isLatin1_aae02 3 = .ok (.ifCond .eq 14, 3) := by decide +kernel
theorem dJ0_isLatin1_aae02_6 : decode cJ0_isLatin1_aae02 6 = .ok (.aload_n 0, 1) := by decide +kernel
theorem dJ0_isLatin1_aae02_7 : decode cJ0_isLatin1_aae02 7 = .ok (.getfield 15, 3) := by decide +kernel
theorem dJ0_isLatin1_aae02_10 : decode cJ0_isLatin1_aae02 10 = .ok (.ifCond .ne 7, 3) := by decide +kernel
theorem dJ0_isLatin1_aae02_13 : decode cJ0_isLatin1_aae02 13 = .ok (.iconst 1, 1) := by decide +kernel
theorem dJ0_isLatin1_aae02_14 : decode cJ0_isLatin1_aae02 14 = .ok (.goto 4, 3) := by decide +kernel
theorem dJ0_isLatin1_aae02_17 : decode cJ0_isLatin1_aae02 17 = .ok (.iconst 0, 1) := by decide +kernel
theorem dJ0_isLatin1_aae02_18 : decode cJ0_isLatin1_aae02 18 = .ok (.ireturn, 1) := by decide +kernel
theorem dJ0_checkIndex_df160_0 : decode cJ0_checkIndex_df160 0 = .ok (.iload_n 0, 1) := by decide +kernel
theorem dJ0_checkIndex_df160_1 : decode cJ0_checkIndex_df160 1 = .ok (.iload_n 1, 1) := by decide +kernel
theorem dJ0_checkIndex_df160_2 : decode cJ0_checkIndex_df160 2 = .ok (.getstatic 1053, 3) := by decide +kernel
theorem dJ0_checkIndex_df160_5 : decode cJ0_checkIndex_df160 5 = .ok (.invokestatic 1059, 3) := by decide +kernel
theorem dJ0_checkIndex_df160_8 : decode cJ0_checkIndex_df160 8 = .ok (.pop, 1) := by decide +kernel
theorem dJ0_checkIndex_df160_9 : decode cJ0_checkIndex_df160 9 = .ok (.return_, 1) := by decide +kernel
theorem dJ1_charAt_3b067_0 : decode cJ1_charAt_3b067 0 = .ok (.iload_n 1, 1) := by decide +kernel
theorem dJ1_charAt_3b067_1 : decode cJ1_charAt_3b067 1 = .ok (.aload_n 0, 1) := by decide +kernel
theorem dJ1_charAt_3b067_2 : decode cJ1_charAt_3b067 2 = .ok (.arraylength, 1) := by decide +kernel
theorem dJ1_charAt_3b067_3 : decode cJ1_charAt_3b067 3 = .ok (.invokestatic 9, 3) := by decide +kernel
theorem dJ1_charAt_3b067_6 : decode cJ1_charAt_3b067 6 = .ok (.aload_n 0, 1) := by decide +kernel
theorem dJ1_charAt_3b067_7 : decode cJ1_charAt_3b067 7 = .ok (.iload_n 1, 1) := by decide +kernel
theorem dJ1_charAt_3b067_8 : decode cJ1_charAt_3b067 8 = .ok (.baload, 1) := by decide +kernel
theorem dJ1_charAt_3b067_9 : decode cJ1_charAt_3b067 9 = .ok (.sipush 255, 3) := by decide +kernel
theorem dJ1_charAt_3b067_12 : decode cJ1_charAt_3b067 12 = .ok (.iand, 1) := by decide +kernel
theorem dJ1_charAt_3b067_13 : decode cJ1_charAt_3b067 13 = .ok (.i2c, 1) := by decide +kernel
theorem dJ1_charAt_3b067_14 : decode cJ1_charAt_3b067 14 = .ok (.ireturn, 1) := by decide +kernel
theorem dJ2_getChar_3b067_0 : decode cJ2_getChar_3b067 0 = .ok (.getstatic 44, 3) := by decide +kernel
theorem dJ2_getChar_3b067_3 : decode cJ2_getChar_3b067 3 = .ok (.ifCond .ne 25, 3) := by decide +kernel
theorem dJ2_getChar_3b067_6 : decode cJ2_getChar_3b067 6 = .ok (.iload_n 1, 1) := by decide +kernel
theorem dJ2_getChar_3b067_7 : decode cJ2_getChar_3b067 7 = .ok (.ifCond .lt 11, 3) := by decide +kernel
theorem dJ2_getChar_3b067_10 : decode cJ2_getChar_3b067 10 = .ok (.iload_n 1, 1) := by decide +kernel
theorem dJ2_getChar_3b067_11 : decode cJ2_getChar_3b067 11 = .ok (.aload_n 0, 1) := by decide +kernel
theorem dJ2_getChar_3b067_12 : decode cJ2_getChar_3b067 12 = .ok (.invokestatic 48, 3) := by decide +kernel
theorem dJ2_getChar_3b067_15 : decode cJ2_getChar_3b067 15 = .ok (.if_icmp .lt 13, 3) := by decide +kernel
theorem dJ2_getChar_3b067_18 : decode cJ2_getChar_3b067 18 = .ok (.new 52, 3) := by decide +kernel
theorem dJ2_getChar_3b067_21 : decode cJ2_getChar_3b067 21 = .ok (.dup, 1) := by decide +kernel
theorem dJ2_getChar_3b067_22 : decode cJ2_getChar_3b067 22 = .ok (.ldc 54, 2) := by decide +kernel
theorem dJ2_getChar_3b067_24 : decode cJ2_getChar_3b067 24 = .ok (.invokespecial 56, 3) := by decide +kernel
theorem dJ2_getChar_3b067_27 : decode cJ2_getChar_3b067 27 = .ok (.athrow, 1) := by decide +kernel
theorem dJ2_getChar_3b067_28 : decode cJ2_getChar_3b067 28 = .ok (.iload_n 1, 1) := by decide +kernel
theorem dJ2_getChar_3b067_29 : decode cJ2_getChar_3b067 29 = .ok (.iconst 1, 1) := by decide +kernel
theorem dJ2_getChar_3b067_30 : decode cJ2_getChar_3b067 30 = .ok (.ishl, 1) := by decide +kernel
theorem dJ2_getChar_3b067_31 : decode cJ2_getChar_3b067 31 = .ok (.istore_n 1, 1) := by decide +kernel
theorem dJ2_getChar_3b067_32 : decode cJ2_getChar_3b067 32 = .ok (.aload_n 0, 1) := by decide +kernel
theorem dJ2_getChar_3b067_33 : decode cJ2_getChar_3b067 33 = .ok (.iload_n 1, 1) := by decide +kernel
theorem dJ2_getChar_3b067_34 : decode cJ2_getChar_3b067 34 = .ok (.iinc 1 1, 3) := by decide +kernel
theorem dJ2_getChar_3b067_37 : decode cJ2_getChar_3b067 37 = .ok (.baload, 1) := by decide +kernel
theorem dJ2_getChar_3b067_38 : decode cJ2_getChar_3b067 38 = .ok (.sipush 255, 3) := by decide +kernel
theorem dJ2_getChar_3b067_41 : decode cJ2_getChar_3b067 41 = .ok (.iand, 1) := by decide +kernel
theorem dJ2_getChar_3b067_42 : decode cJ2_getChar_3b067 42 = .ok (.getstatic 59, 3) := by decide +kernel
theorem dJ2_getChar_3b067_45 : decode cJ2_getChar_3b067 45 = .ok (.ishl, 1) := by decide +kernel
theorem dJ2_getChar_3b067_46 : decode cJ2_getChar_3b067 46 = .ok (.aload_n 0, 1) := by decide +kernel
theorem dJ2_getChar_3b067_47 : decode cJ2_getChar_3b067 47 = .ok (.iload_n 1, 1) := by decide +kernel
theorem dJ2_getChar_3b067_48 : decode cJ2_getChar_3b067 48 = .ok (.baload, 1) := by decide +kernel
theorem dJ2_getChar_3b067_49 : decode cJ2_getChar_3b067 49 = .ok (.sipush 255, 3) := by decide +kernel
theorem dJ2_getChar_3b067_52 : decode cJ2_getChar_3b067 52 = .ok (.iand, 1) := by decide +kernel
theorem dJ2_getChar_3b067_53 : decode cJ2_getChar_3b067 53 = .ok (.getstatic 63, 3) := by decide +kernel
theorem dJ2_getChar_3b067_56 : decode cJ2_getChar_3b067 56 = .ok (.ishl, 1) := by decide +kernel
theorem dJ2_getChar_3b067_57 : decode cJ2_getChar_3b067 57 = .ok (.ior, 1) := by decide +kernel
theorem dJ2_getChar_3b067_58 : decode cJ2_getChar_3b067 58 = .ok (.i2c, 1) := by decide +kernel
theorem dJ2_getChar_3b067_59 : decode cJ2_getChar_3b067 59 = .ok (.ireturn, 1) := by decide +kernel
theorem dJ2_length_9d52b_0 : decode cJ2_length_9d52b 0 = .ok (.aload_n 0, 1) := by decide +kernel
theorem dJ2_length_9d52b_1 : decode cJ2_length_9d52b 1 = .ok (.arraylength, 1) := by decide +kernel
theorem dJ2_length_9d52b_2 : decode cJ2_length_9d52b 2 = .ok (.iconst 1, 1) := by decide +kernel
theorem dJ2_length_9d52b_3 : decode cJ2_length_9d52b 3 = .ok (.ishr, 1) := by decide +kernel
theorem dJ2_length_9d52b_4 : decode cJ2_length_9d52b 4 = .ok (.ireturn, 1) := by decide +kernel
theorem dJ2_charAt_3b067_0 : decode cJ2_charAt_3b067 0 = .ok (.iload_n 1, 1) := by decide +kernel
theorem dJ2_charAt_3b067_1 : decode cJ2_charAt_3b067 1 = .ok (.aload_n 0, 1) := by decide +kernel
theorem dJ2_charAt_3b067_2 : decode cJ2_charAt_3b067 2 = .ok (.invokestatic 67, 3) := by decide +kernel
theorem dJ2_charAt_3b067_5 : decode cJ2_charAt_3b067 5 = .ok (.aload_n 0, 1) := by decide +kernel
theorem dJ2_charAt_3b067_6 : decode cJ2_charAt_3b067 6 = .ok (.iload_n 1, 1) := by decide +kernel
theorem dJ2_charAt_3b067_7 : decode cJ2_charAt_3b067 7 = .ok (.invokestatic 71, 3) := by decide +kernel
theorem dJ2_charAt_3b067_10 : decode cJ2_charAt_3b067 10 = .ok (.ireturn, 1) := by decide +kernel
theorem dJ2_checkIndex_2214a_0 : decode cJ2_checkIndex_2214a 0 = .ok (.iload_n 0, 1) := by decide +kernel
theorem dJ2_checkIndex_2214a_1 : decode cJ2_checkIndex_2214a 1 = .ok (.aload_n 1, 1) := by decide +kernel
theorem dJ2_checkIndex_2214a_2 : decode cJ2_checkIndex_2214a 2 = .ok (.invokestatic 48, 3) := by decide +kernel
theorem dJ2_checkIndex_2214a_5 : decode cJ2_checkIndex_2214a 5 = .ok (.invokestatic 414, 3) := by decide +kernel
theorem dJ2_checkIndex_2214a_8 : decode cJ2_checkIndex_2214a 8 = .ok (.return_, 1) := by decide +kernel
theorem dJ7_fill_53178_0 : decode cJ7_fill_53178 0 = .ok (.iconst 0, 1) := by decide +kernel
theorem dJ7_fill_53178_1 : decode cJ7_fill_53178 1 = .ok (.istore_n 2, 1) := by decide +kernel
theorem dJ7_fill_53178_2 : decode cJ7_fill_53178 2 = .ok (.aload_n 0, 1) := by decide +kernel
theorem dJ7_fill_53178_3 : decode cJ7_fill_53178 3 = .ok (.arraylength, 1) := by decide +kernel
theorem dJ7_fill_53178_4 : decode cJ7_fill_53178 4 = .ok (.istore_n 3, 1) := by decide +kernel
theorem dJ7_fill_53178_5 : decode cJ7_fill_53178 5 = .ok (.iload_n 2, 1) := by decide +kernel
theorem dJ7_fill_53178_6 : decode cJ7_fill_53178 6 = .ok (.iload_n 3, 1) := by decide +kernel
theorem dJ7_fill_53178_7 : decode cJ7_fill_53178 7 = .ok (.if_icmp .ge 13, 3) := by decide +kernel
theorem dJ7_fill_53178_10 : decode cJ7_fill_53178 10 = .ok (.aload_n 0, 1) := by decide +kernel
theorem dJ7_fill_53178_11 : decode cJ7_fill_53178 11 = .ok (.iload_n 2, 1) := by decide +kernel
theorem dJ7_fill_53178_12 : decode cJ7_fill_53178 12 = .ok (.iload_n 1, 1) := by decide +kernel
theorem dJ7_fill_53178_13 : decode cJ7_fill_53178 13 = .ok (.iastore, 1) := by decide +kernel
theorem dJ7_fill_53178_14 : decode cJ7_fill_53178 14 = .ok (.iinc 2 1, 3) := by decide +kernel
theorem dJ7_fill_53178_17 : decode cJ7_fill_53178 17 = .ok (.goto (-12), 3) := by decide +kernel
theorem dJ7_fill_53178_20 : decode cJ7_fill_53178 20 = .ok (.return_, 1) := by decide +kernel
theorem dJ3_checkIndex_8e157_0 : decode cJ3_checkIndex_8e157 0 = .ok (.iload_n 0, 1) := by decide +kernel
theorem dJ3_checkIndex_8e157_1 : decode cJ3_checkIndex_8e157 1 = .ok (.ifCond .lt 8, 3) := by decide +kernel
theorem dJ3_checkIndex_8e157_4 : decode cJ3_checkIndex_8e157 4 = .ok (.iload_n 0, 1) := by decide +kernel
theorem dJ3_checkIndex_8e157_5 : decode cJ3_checkIndex_8e157 5 = .ok (.iload_n 1, 1) := by decide +kernel
theorem dJ3_checkIndex_8e157_6 : decode cJ3_checkIndex_8e157 6 = .ok (.if_icmp .lt 10, 3) := by decide +kernel
theorem dJ3_checkIndex_8e157_9 : decode cJ3_checkIndex_8e157 9 = .ok (.aload_n 2, 1) := by decide +kernel
theorem dJ3_checkIndex_8e157_10 : decode cJ3_checkIndex_8e157 10 = .ok (.iload_n 0, 1) := by decide +kernel
theorem dJ3_checkIndex_8e157_11 : decode cJ3_checkIndex_8e157 11 = .ok (.iload_n 1, 1) := by decide +kernel
theorem dJ3_checkIndex_8e157_12 : decode cJ3_checkIndex_8e157 12 = .ok (.invokestatic 95, 3) := by decide +kernel
theorem dJ3_checkIndex_8e157_15 : decode cJ3_checkIndex_8e157 15 = .ok (.athrow, 1) := by decide +kernel
theorem dJ3_checkIndex_8e157_16 : decode cJ3_checkIndex_8e157 16 = .ok (.iload_n 0, 1) := by decide +kernel
theorem dJ3_checkIndex_8e157_17 : decode cJ3_checkIndex_8e157 17 = .ok (.ireturn, 1) := by decide +kernel
theorem dL_law_0 : decode cL_law 0 = .ok (.new 7, 3) := by decide +kernel
theorem dL_law_3 : decode cL_law 3 = .ok (.dup, 1) := by decide +kernel
theorem dL_law_4 : decode cL_law 4 = .ok (.invokespecial 9, 3) := by decide +kernel
theorem dL_law_7 : decode cL_law 7 = .ok (.astore_n 1, 1) := by decide +kernel
theorem dL_law_8 : decode cL_law 8 = .ok (.new 10, 3) := by decide +kernel
theorem dL_law_11 : decode cL_law 11 = .ok (.dup, 1) := by decide +kernel
theorem dL_law_12 : decode cL_law 12 = .ok (.invokespecial 12, 3) := by decide +kernel
theorem dL_law_15 : decode cL_law 15 = .ok (.astore_n 2, 1) := by decide +kernel
theorem dL_law_16 : decode cL_law 16 = .ok (.iconst 0, 1) := by decide +kernel
theorem dL_law_17 : decode cL_law 17 = .ok (.istore_n 3, 1) := by decide +kernel
theorem dL_law_18 : decode cL_law 18 = .ok (.iload_n 3, 1) := by decide +kernel
theorem dL_law_19 : decode cL_law 19 = .ok (.aload_n 0, 1) := by decide +kernel
theorem dL_law_20 : decode cL_law 20 = .ok (.arraylength, 1) := by decide +kernel
theorem dL_law_21 : decode cL_law 21 = .ok (.bipush 6, 2) := by decide +kernel
theorem dL_law_23 : decode cL_law 23 = .ok (.isub, 1) := by decide +kernel
theorem dL_law_24 : decode cL_law 24 = .ok (.if_icmp .gt 1189, 3) := by decide +kernel
theorem dL_law_27 : decode cL_law 27 = .ok (.aload_n 0, 1) := by decide +kernel
theorem dL_law_28 : decode cL_law 28 = .ok (.iload_n 3, 1) := by decide +kernel
theorem dL_law_29 : decode cL_law 29 = .ok (.iaload, 1) := by decide +kernel
theorem dL_law_30 : decode cL_law 30 = .ok (.bipush 63, 2) := by decide +kernel
theorem dL_law_32 : decode cL_law 32 = .ok (.iand, 1) := by decide +kernel
theorem dL_law_33 : decode cL_law 33 = .ok (.tableswitch 1174 0 36 #[163, 226, 249, 262, 285, 308, 351, 384, 417, 450, 483, 516, 549, 562, 585, 598, 631, 654, 707, 740, 783, 806, 829, 862, 895, 918, 941, 954, 977, 1010, 1033, 1056, 1079, 1112, 1125, 1138, 1161], 163) := by decide +kernel
theorem dL_law_196 : decode cL_law 196 = .ok (.aload_n 1, 1) := by decide +kernel
theorem dL_law_197 : decode cL_law 197 = .ok (.aload_n 0, 1) := by decide +kernel
theorem dL_law_198 : decode cL_law 198 = .ok (.iload_n 3, 1) := by decide +kernel
theorem dL_law_199 : decode cL_law 199 = .ok (.iconst 1, 1) := by decide +kernel
theorem dL_law_200 : decode cL_law 200 = .ok (.iadd, 1) := by decide +kernel
theorem dL_law_201 : decode cL_law 201 = .ok (.iaload, 1) := by decide +kernel
theorem dL_law_202 : decode cL_law 202 = .ok (.aload_n 0, 1) := by decide +kernel
theorem dL_law_203 : decode cL_law 203 = .ok (.iload_n 3, 1) := by decide +kernel
theorem dL_law_204 : decode cL_law 204 = .ok (.iconst 2, 1) := by decide +kernel
theorem dL_law_205 : decode cL_law 205 = .ok (.iadd, 1) := by decide +kernel
theorem dL_law_206 : decode cL_law 206 = .ok (.iaload, 1) := by decide +kernel
theorem dL_law_207 : decode cL_law 207 = .ok (.aload_n 0, 1) := by decide +kernel
theorem dL_law_208 : decode cL_law 208 = .ok (.iload_n 3, 1) := by decide +kernel
theorem dL_law_209 : decode cL_law 209 = .ok (.iconst 3, 1) := by decide +kernel
theorem dL_law_210 : decode cL_law 210 = .ok (.iadd, 1) := by decide +kernel
theorem dL_law_211 : decode cL_law 211 = .ok (.iaload, 1) := by decide +kernel
theorem dL_law_212 : decode cL_law 212 = .ok (.aload_n 0, 1) := by decide +kernel
theorem dL_law_213 : decode cL_law 213 = .ok (.iload_n 3, 1) := by decide +kernel
theorem dL_law_214 : decode cL_law 214 = .ok (.iconst 4, 1) := by decide +kernel
theorem dL_law_215 : decode cL_law 215 = .ok (.iadd, 1) := by decide +kernel
theorem dL_law_216 : decode cL_law 216 = .ok (.iaload, 1) := by decide +kernel
theorem dL_law_217 : decode cL_law 217 = .ok (.aload_n 0, 1) := by decide +kernel
theorem dL_law_218 : decode cL_law 218 = .ok (.iload_n 3, 1) := by decide +kernel
theorem dL_law_219 : decode cL_law 219 = .ok (.iconst 5, 1) := by decide +kernel
theorem dL_law_220 : decode cL_law 220 = .ok (.iadd, 1) := by decide +kernel
theorem dL_law_221 : decode cL_law 221 = .ok (.iaload, 1) := by decide +kernel
theorem dL_law_222 : decode cL_law 222 = .ok (.invokevirtual 13, 3) := by decide +kernel
theorem dL_law_225 : decode cL_law 225 = .ok (.aload_n 2, 1) := by decide +kernel
theorem dL_law_226 : decode cL_law 226 = .ok (.aload_n 0, 1) := by decide +kernel
theorem dL_law_227 : decode cL_law 227 = .ok (.iload_n 3, 1) := by decide +kernel
theorem dL_law_228 : decode cL_law 228 = .ok (.iconst 1, 1) := by decide +kernel
theorem dL_law_229 : decode cL_law 229 = .ok (.iadd, 1) := by decide +kernel
theorem dL_law_230 : decode cL_law 230 = .ok (.iaload, 1) := by decide +kernel
theorem dL_law_231 : decode cL_law 231 = .ok (.aload_n 0, 1) := by decide +kernel
theorem dL_law_232 : decode cL_law 232 = .ok (.iload_n 3, 1) := by decide +kernel
theorem dL_law_233 : decode cL_law 233 = .ok (.iconst 2, 1) := by decide +kernel
theorem dL_law_234 : decode cL_law 234 = .ok (.iadd, 1) := by decide +kernel
theorem dL_law_235 : decode cL_law 235 = .ok (.iaload, 1) := by decide +kernel
theorem dL_law_236 : decode cL_law 236 = .ok (.aload_n 0, 1) := by decide +kernel
theorem dL_law_237 : decode cL_law 237 = .ok (.iload_n 3, 1) := by decide +kernel
theorem dL_law_238 : decode cL_law 238 = .ok (.iconst 3, 1) := by decide +kernel
theorem dL_law_239 : decode cL_law 239 = .ok (.iadd, 1) := by decide +kernel
theorem dL_law_240 : decode cL_law 240 = .ok (.iaload, 1) := by decide +kernel
theorem dL_law_241 : decode cL_law 241 = .ok (.aload_n 0, 1) := by decide +kernel
theorem dL_law_242 : decode cL_law 242 = .ok (.iload_n 3, 1) := by decide +kernel
theorem dL_law_243 : decode cL_law 243 = .ok (.iconst 4, 1) := by decide +kernel
theorem dL_law_244 : decode cL_law 244 = .ok (.iadd, 1) := by decide +kernel
theorem dL_law_245 : decode cL_law 245 = .ok (.iaload, 1) := by decide +kernel
theorem dL_law_246 : decode cL_law 246 = .ok (.aload_n 0, 1) := by decide +kernel
theorem dL_law_247 : decode cL_law 247 = .ok (.iload_n 3, 1) := by decide +kernel
theorem dL_law_248 : decode cL_law 248 = .ok (.iconst 5, 1) := by decide +kernel
theorem dL_law_249 : decode cL_law 249 = .ok (.iadd, 1) := by decide +kernel
theorem dL_law_250 : decode cL_law 250 = .ok (.iaload, 1) := by decide +kernel
theorem dL_law_251 : decode cL_law 251 = .ok (.invokevirtual 17, 3) := by decide +kernel
theorem dL_law_254 : decode cL_law 254 = .ok (.if_icmp .eq 953, 3) := by decide +kernel
theorem dL_law_257 : decode cL_law 257 = .ok (.iconst 0, 1) := by decide +kernel
theorem dL_law_258 : decode cL_law 258 = .ok (.ireturn, 1) := by decide +kernel
theorem dL_law_259 : decode cL_law 259 = .ok (.aload_n 1, 1) := by decide +kernel
theorem dL_law_260 : decode cL_law 260 = .ok (.aload_n 0, 1) := by decide +kernel
theorem dL_law_261 : decode cL_law 261 = .ok (.iload_n 3, 1) := by decide +kernel
theorem dL_law_262 : decode cL_law 262 = .ok (.iconst 1, 1) := by decide +kernel
theorem dL_law_263 : decode cL_law 263 = .ok (.iadd, 1) := by decide +kernel
theorem dL_law_264 : decode cL_law 264 = .ok (.iaload, 1) := by decide +kernel
theorem dL_law_265 : decode cL_law 265 = .ok (.invokevirtual 18, 3) := by decide +kernel
theorem dL_law_268 : decode cL_law 268 = .ok (.aload_n 2, 1) := by decide +kernel
theorem dL_law_269 : decode cL_law 269 = .ok (.aload_n 0, 1) := by decide +kernel
theorem dL_law_270 : decode cL_law 270 = .ok (.iload_n 3, 1) := by decide +kernel
theorem dL_law_271 : decode cL_law 271 = .ok (.iconst 1, 1) := by decide +kernel
theorem dL_law_272 : decode cL_law 272 = .ok (.iadd, 1) := by decide +kernel
theorem dL_law_273 : decode cL_law 273 = .ok (.iaload, 1) := by decide +kernel
theorem dL_law_274 : decode cL_law 274 = .ok (.invokevirtual 22, 3) := by decide +kernel
theorem dL_law_277 : decode cL_law 277 = .ok (.if_icmp .eq 930, 3) := by decide +kernel
theorem dL_law_280 : decode cL_law 280 = .ok (.iconst 0, 1) := by decide +kernel
theorem dL_law_281 : decode cL_law 281 = .ok (.ireturn, 1) := by decide +kernel
theorem dL_law_282 : decode cL_law 282 = .ok (.aload_n 1, 1) := by decide +kernel
theorem dL_law_283 : decode cL_law 283 = .ok (.invokevirtual 23, 3) := by decide +kernel
theorem dL_law_286 : decode cL_law 286 = .ok (.aload_n 2, 1) := by decide +kernel
theorem dL_law_287 : decode cL_law 287 = .ok (.invokevirtual 27, 3) := by decide +kernel
theorem dL_law_290 : decode cL_law 290 = .ok (.if_icmp .eq 917, 3) := by decide +kernel
theorem dL_law_293 : decode cL_law 293 = .ok (.iconst 0, 1) := by decide +kernel
theorem dL_law_294 : decode cL_law 294 = .ok (.ireturn, 1) := by decide +kernel
theorem dL_law_295 : decode cL_law 295 = .ok (.aload_n 1, 1) := by decide +kernel
theorem dL_law_296 : decode cL_law 296 = .ok (.aload_n 0, 1) := by decide +kernel
theorem dL_law_297 : decode cL_law 297 = .ok (.iload_n 3, 1) := by decide +kernel
theorem dL_law_298 : decode cL_law 298 = .ok (.iconst 1, 1) := by decide +kernel
theorem dL_law_299 : decode cL_law 299 = .ok (.iadd, 1) := by decide +kernel
theorem dL_law_300 : decode cL_law 300 = .ok (.iaload, 1) := by decide +kernel
theorem dL_law_301 : decode cL_law 301 = .ok (.invokevirtual 28, 3) := by decide +kernel
theorem dL_law_304 : decode cL_law 304 = .ok (.aload_n 2, 1) := by decide +kernel
theorem dL_law_305 : decode cL_law 305 = .ok (.aload_n 0, 1) := by decide +kernel
theorem dL_law_306 : decode cL_law 306 = .ok (.iload_n 3, 1) := by decide +kernel
theorem dL_law_307 : decode cL_law 307 = .ok (.iconst 1, 1) := by decide +kernel
theorem dL_law_308 : decode cL_law 308 = .ok (.iadd, 1) := by decide +kernel
theorem dL_law_309 : decode cL_law 309 = .ok (.iaload, 1) := by decide +kernel
theorem dL_law_310 : decode cL_law 310 = .ok (.invokevirtual 32, 3) := by decide +kernel
theorem dL_law_313 : decode cL_law 313 = .ok (.if_icmp .eq 894, 3) := by decide +kernel
theorem dL_law_316 : decode cL_law 316 = .ok (.iconst 0, 1) := by decide +kernel
theorem dL_law_317 : decode cL_law 317 = .ok (.ireturn, 1) := by decide +kernel
theorem dL_law_318 : decode cL_law 318 = .ok (.aload_n 1, 1) := by decide +kernel
theorem dL_law_319 : decode cL_law 319 = .ok (.aload_n 0, 1) := by decide +kernel
theorem dL_law_320 : decode cL_law 320 = .ok (.iload_n 3, 1) := by decide +kernel
theorem dL_law_321 : decode cL_law 321 = .ok (.iconst 1, 1) := by decide +kernel
theorem dL_law_322 : decode cL_law 322 = .ok (.iadd, 1) := by decide +kernel
theorem dL_law_323 : decode cL_law 323 = .ok (.iaload, 1) := by decide +kernel
theorem dL_law_324 : decode cL_law 324 = .ok (.invokevirtual 33, 3) := by decide +kernel
theorem dL_law_327 : decode cL_law 327 = .ok (.aload_n 2, 1) := by decide +kernel
theorem dL_law_328 : decode cL_law 328 = .ok (.aload_n 0, 1) := by decide +kernel
theorem dL_law_329 : decode cL_law 329 = .ok (.iload_n 3, 1) := by decide +kernel
theorem dL_law_330 : decode cL_law 330 = .ok (.iconst 1, 1) := by decide +kernel
theorem dL_law_331 : decode cL_law 331 = .ok (.iadd, 1) := by decide +kernel
theorem dL_law_332 : decode cL_law 332 = .ok (.iaload, 1) := by decide +kernel
theorem dL_law_333 : decode cL_law 333 = .ok (.invokevirtual 36, 3) := by decide +kernel
theorem dL_law_336 : decode cL_law 336 = .ok (.if_icmp .eq 871, 3) := by decide +kernel
theorem dL_law_339 : decode cL_law 339 = .ok (.iconst 0, 1) := by decide +kernel
theorem dL_law_340 : decode cL_law 340 = .ok (.ireturn, 1) := by decide +kernel
theorem dL_law_341 : decode cL_law 341 = .ok (.aload_n 1, 1) := by decide +kernel
theorem dL_law_342 : decode cL_law 342 = .ok (.aload_n 0, 1) := by decide +kernel
theorem dL_law_343 : decode cL_law 343 = .ok (.iload_n 3, 1) := by decide +kernel
theorem dL_law_344 : decode cL_law 344 = .ok (.iconst 1, 1) := by decide +kernel
theorem dL_law_345 : decode cL_law 345 = .ok (.iadd, 1) := by decide +kernel
theorem dL_law_346 : decode cL_law 346 = .ok (.iaload, 1) := by decide +kernel
theorem dL_law_347 : decode cL_law 347 = .ok (.aload_n 0, 1) := by decide +kernel
theorem dL_law_348 : decode cL_law 348 = .ok (.iload_n 3, 1) := by decide +kernel
theorem dL_law_349 : decode cL_law 349 = .ok (.iconst 2, 1) := by decide +kernel
theorem dL_law_350 : decode cL_law 350 = .ok (.iadd, 1) := by decide +kernel
theorem dL_law_351 : decode cL_law 351 = .ok (.iaload, 1) := by decide +kernel
theorem dL_law_352 : decode cL_law 352 = .ok (.aload_n 0, 1) := by decide +kernel
theorem dL_law_353 : decode cL_law 353 = .ok (.iload_n 3, 1) := by decide +kernel
theorem dL_law_354 : decode cL_law 354 = .ok (.iconst 3, 1) := by decide +kernel
theorem dL_law_355 : decode cL_law 355 = .ok (.iadd, 1) := by decide +kernel
theorem dL_law_356 : decode cL_law 356 = .ok (.iaload, 1) := by decide +kernel
theorem dL_law_357 : decode cL_law 357 = .ok (.invokevirtual 37, 3) := by decide +kernel
theorem dL_law_360 : decode cL_law 360 = .ok (.aload_n 2, 1) := by decide +kernel
theorem dL_law_361 : decode cL_law 361 = .ok (.aload_n 0, 1) := by decide +kernel
theorem dL_law_362 : decode cL_law 362 = .ok (.iload_n 3, 1) := by decide +kernel
theorem dL_law_363 : decode cL_law 363 = .ok (.iconst 1, 1) := by decide +kernel
theorem dL_law_364 : decode cL_law 364 = .ok (.iadd, 1) := by decide +kernel
theorem dL_law_365 : decode cL_law 365 = .ok (.iaload, 1) := by decide +kernel
theorem dL_law_366 : decode cL_law 366 = .ok (.aload_n 0, 1) := by decide +kernel
theorem dL_law_367 : decode cL_law 367 = .ok (.iload_n 3, 1) := by decide +kernel
theorem dL_law_368 : decode cL_law 368 = .ok (.iconst 2, 1) := by decide +kernel
theorem dL_law_369 : decode cL_law 369 = .ok (.iadd, 1) := by decide +kernel
theorem dL_law_370 : decode cL_law 370 = .ok (.iaload, 1) := by decide +kernel
theorem dL_law_371 : decode cL_law 371 = .ok (.aload_n 0, 1) := by decide +kernel
theorem dL_law_372 : decode cL_law 372 = .ok (.iload_n 3, 1) := by decide +kernel
theorem dL_law_373 : decode cL_law 373 = .ok (.iconst 3, 1) := by decide +kernel
theorem dL_law_374 : decode cL_law 374 = .ok (.iadd, 1) := by decide +kernel
theorem dL_law_375 : decode cL_law 375 = .ok (.iaload, 1) := by decide +kernel
theorem dL_law_376 : decode cL_law 376 = .ok (.invokevirtual 41, 3) := by decide +kernel
theorem dL_law_379 : decode cL_law 379 = .ok (.if_icmp .eq 828, 3) := by decide +kernel
theorem dL_law_382 : decode cL_law 382 = .ok (.iconst 0, 1) := by decide +kernel
theorem dL_law_383 : decode cL_law 383 = .ok (.ireturn, 1) := by decide +kernel
theorem dL_law_384 : decode cL_law 384 = .ok (.aload_n 1, 1) := by decide +kernel
theorem dL_law_385 : decode cL_law 385 = .ok (.aload_n 0, 1) := by decide +kernel
theorem dL_law_386 : decode cL_law 386 = .ok (.iload_n 3, 1) := by decide +kernel
theorem dL_law_387 : decode cL_law 387 = .ok (.iconst 1, 1) := by decide +kernel
theorem dL_law_388 : decode cL_law 388 = .ok (.iadd, 1) := by decide +kernel
theorem dL_law_389 : decode cL_law 389 = .ok (.iaload, 1) := by decide +kernel
theorem dL_law_390 : decode cL_law 390 = .ok (.aload_n 0, 1) := by decide +kernel
theorem dL_law_391 : decode cL_law 391 = .ok (.iload_n 3, 1) := by decide +kernel
theorem dL_law_392 : decode cL_law 392 = .ok (.iconst 2, 1) := by decide +kernel
theorem dL_law_393 : decode cL_law 393 = .ok (.iadd, 1) := by decide +kernel
theorem dL_law_394 : decode cL_law 394 = .ok (.iaload, 1) := by decide +kernel
theorem dL_law_395 : decode cL_law 395 = .ok (.invokevirtual 42, 3) := by decide +kernel
theorem dL_law_398 : decode cL_law 398 = .ok (.aload_n 2, 1) := by decide +kernel
theorem dL_law_399 : decode cL_law 399 = .ok (.aload_n 0, 1) := by decide +kernel
theorem dL_law_400 : decode cL_law 400 = .ok (.iload_n 3, 1) := by decide +kernel
theorem dL_law_401 : decode cL_law 401 = .ok (.iconst 1, 1) := by decide +kernel
theorem dL_law_402 : decode cL_law 402 = .ok (.iadd, 1) := by decide +kernel
theorem dL_law_403 : decode cL_law 403 = .ok (.iaload, 1) := by decide +kernel
theorem dL_law_404 : decode cL_law 404 = .ok (.aload_n 0, 1) := by decide +kernel
theorem dL_law_405 : decode cL_law 405 = .ok (.iload_n 3, 1) := by decide +kernel
theorem dL_law_406 : decode cL_law 406 = .ok (.iconst 2, 1) := by decide +kernel
theorem dL_law_407 : decode cL_law 407 = .ok (.iadd, 1) := by decide +kernel
theorem dL_law_408 : decode cL_law 408 = .ok (.iaload, 1) := by decide +kernel
theorem dL_law_409 : decode cL_law 409 = .ok (.invokevirtual 46, 3) := by decide +kernel
theorem dL_law_412 : decode cL_law 412 = .ok (.if_icmp .eq 795, 3) := by decide +kernel
theorem dL_law_415 : decode cL_law 415 = .ok (.iconst 0, 1) := by decide +kernel
theorem dL_law_416 : decode cL_law 416 = .ok (.ireturn, 1) := by decide +kernel
theorem dL_law_417 : decode cL_law 417 = .ok (.aload_n 1, 1) := by decide +kernel
theorem dL_law_418 : decode cL_law 418 = .ok (.aload_n 0, 1) := by decide +kernel
theorem dL_law_419 : decode cL_law 419 = .ok (.iload_n 3, 1) := by decide +kernel
theorem dL_law_420 : decode cL_law 420 = .ok (.iconst 1, 1) := by decide +kernel
theorem dL_law_421 : decode cL_law 421 = .ok (.iadd, 1) := by decide +kernel
theorem dL_law_422 : decode cL_law 422 = .ok (.iaload, 1) := by decide +kernel
theorem dL_law_423 : decode cL_law 423 = .ok (.aload_n 0, 1) := by decide +kernel
theorem dL_law_424 : decode cL_law 424 = .ok (.iload_n 3, 1) := by decide +kernel
theorem dL_law_425 : decode cL_law 425 = .ok (.iconst 2, 1) := by decide +kernel
theorem dL_law_426 : decode cL_law 426 = .ok (.iadd, 1) := by decide +kernel
theorem dL_law_427 : decode cL_law 427 = .ok (.iaload, 1) := by decide +kernel
theorem dL_law_428 : decode cL_law 428 = .ok (.invokevirtual 47, 3) := by decide +kernel
theorem dL_law_431 : decode cL_law 431 = .ok (.aload_n 2, 1) := by decide +kernel
theorem dL_law_432 : decode cL_law 432 = .ok (.aload_n 0, 1) := by decide +kernel
theorem dL_law_433 : decode cL_law 433 = .ok (.iload_n 3, 1) := by decide +kernel
theorem dL_law_434 : decode cL_law 434 = .ok (.iconst 1, 1) := by decide +kernel
theorem dL_law_435 : decode cL_law 435 = .ok (.iadd, 1) := by decide +kernel
theorem dL_law_436 : decode cL_law 436 = .ok (.iaload, 1) := by decide +kernel
theorem dL_law_437 : decode cL_law 437 = .ok (.aload_n 0, 1) := by decide +kernel
theorem dL_law_438 : decode cL_law 438 = .ok (.iload_n 3, 1) := by decide +kernel
theorem dL_law_439 : decode cL_law 439 = .ok (.iconst 2, 1) := by decide +kernel
theorem dL_law_440 : decode cL_law 440 = .ok (.iadd, 1) := by decide +kernel
theorem dL_law_441 : decode cL_law 441 = .ok (.iaload, 1) := by decide +kernel
theorem dL_law_442 : decode cL_law 442 = .ok (.invokevirtual 50, 3) := by decide +kernel
theorem dL_law_445 : decode cL_law 445 = .ok (.if_icmp .eq 762, 3) := by decide +kernel
theorem dL_law_448 : decode cL_law 448 = .ok (.iconst 0, 1) := by decide +kernel
theorem dL_law_449 : decode cL_law 449 = .ok (.ireturn, 1) := by decide +kernel
theorem dL_law_450 : decode cL_law 450 = .ok (.aload_n 1, 1) := by decide +kernel
theorem dL_law_451 : decode cL_law 451 = .ok (.aload_n 0, 1) := by decide +kernel
theorem dL_law_452 : decode cL_law 452 = .ok (.iload_n 3, 1) := by decide +kernel
theorem dL_law_453 : decode cL_law 453 = .ok (.iconst 1, 1) := by decide +kernel
theorem dL_law_454 : decode cL_law 454 = .ok (.iadd, 1) := by decide +kernel
theorem dL_law_455 : decode cL_law 455 = .ok (.iaload, 1) := by decide +kernel
theorem dL_law_456 : decode cL_law 456 = .ok (.aload_n 0, 1) := by decide +kernel
theorem dL_law_457 : decode cL_law 457 = .ok (.iload_n 3, 1) := by decide +kernel
theorem dL_law_458 : decode cL_law 458 = .ok (.iconst 2, 1) := by decide +kernel
theorem dL_law_459 : decode cL_law 459 = .ok (.iadd, 1) := by decide +kernel
theorem dL_law_460 : decode cL_law 460 = .ok (.iaload, 1) := by decide +kernel
theorem dL_law_461 : decode cL_law 461 = .ok (.invokevirtual 51, 3) := by decide +kernel
theorem dL_law_464 : decode cL_law 464 = .ok (.aload_n 2, 1) := by decide +kernel
theorem dL_law_465 : decode cL_law 465 = .ok (.aload_n 0, 1) := by decide +kernel
theorem dL_law_466 : decode cL_law 466 = .ok (.iload_n 3, 1) := by decide +kernel
theorem dL_law_467 : decode cL_law 467 = .ok (.iconst 1, 1) := by decide +kernel
theorem dL_law_468 : decode cL_law 468 = .ok (.iadd, 1) := by decide +kernel
theorem dL_law_469 : decode cL_law 469 = .ok (.iaload, 1) := by decide +kernel
theorem dL_law_470 : decode cL_law 470 = .ok (.aload_n 0, 1) := by decide +kernel
theorem dL_law_471 : decode cL_law 471 = .ok (.iload_n 3, 1) := by decide +kernel
theorem dL_law_472 : decode cL_law 472 = .ok (.iconst 2, 1) := by decide +kernel
theorem dL_law_473 : decode cL_law 473 = .ok (.iadd, 1) := by decide +kernel
theorem dL_law_474 : decode cL_law 474 = .ok (.iaload, 1) := by decide +kernel
theorem dL_law_475 : decode cL_law 475 = .ok (.invokevirtual 54, 3) := by decide +kernel
theorem dL_law_478 : decode cL_law 478 = .ok (.if_icmp .eq 729, 3) := by decide +kernel
theorem dL_law_481 : decode cL_law 481 = .ok (.iconst 0, 1) := by decide +kernel
theorem dL_law_482 : decode cL_law 482 = .ok (.ireturn, 1) := by decide +kernel
theorem dL_law_483 : decode cL_law 483 = .ok (.aload_n 1, 1) := by decide +kernel
theorem dL_law_484 : decode cL_law 484 = .ok (.aload_n 0, 1) := by decide +kernel
theorem dL_law_485 : decode cL_law 485 = .ok (.iload_n 3, 1) := by decide +kernel
theorem dL_law_486 : decode cL_law 486 = .ok (.iconst 1, 1) := by decide +kernel
theorem dL_law_487 : decode cL_law 487 = .ok (.iadd, 1) := by decide +kernel
theorem dL_law_488 : decode cL_law 488 = .ok (.iaload, 1) := by decide +kernel
theorem dL_law_489 : decode cL_law 489 = .ok (.aload_n 0, 1) := by decide +kernel
theorem dL_law_490 : decode cL_law 490 = .ok (.iload_n 3, 1) := by decide +kernel
theorem dL_law_491 : decode cL_law 491 = .ok (.iconst 2, 1) := by decide +kernel
theorem dL_law_492 : decode cL_law 492 = .ok (.iadd, 1) := by decide +kernel
theorem dL_law_493 : decode cL_law 493 = .ok (.iaload, 1) := by decide +kernel
theorem dL_law_494 : decode cL_law 494 = .ok (.invokevirtual 55, 3) := by decide +kernel
theorem dL_law_497 : decode cL_law 497 = .ok (.aload_n 2, 1) := by decide +kernel
theorem dL_law_498 : decode cL_law 498 = .ok (.aload_n 0, 1) := by decide +kernel
theorem dL_law_499 : decode cL_law 499 = .ok (.iload_n 3, 1) := by decide +kernel
theorem dL_law_500 : decode cL_law 500 = .ok (.iconst 1, 1) := by decide +kernel
theorem dL_law_501 : decode cL_law 501 = .ok (.iadd, 1) := by decide +kernel
theorem dL_law_502 : decode cL_law 502 = .ok (.iaload, 1) := by decide +kernel
theorem dL_law_503 : decode cL_law 503 = .ok (.aload_n 0, 1) := by decide +kernel
theorem dL_law_504 : decode cL_law 504 = .ok (.iload_n 3, 1) := by decide +kernel
theorem dL_law_505 : decode cL_law 505 = .ok (.iconst 2, 1) := by decide +kernel
theorem dL_law_506 : decode cL_law 506 = .ok (.iadd, 1) := by decide +kernel
theorem dL_law_507 : decode cL_law 507 = .ok (.iaload, 1) := by decide +kernel
theorem dL_law_508 : decode cL_law 508 = .ok (.invokevirtual 59, 3) := by decide +kernel
theorem dL_law_511 : decode cL_law 511 = .ok (.if_icmp .eq 696, 3) := by decide +kernel
theorem dL_law_514 : decode cL_law 514 = .ok (.iconst 0, 1) := by decide +kernel
theorem dL_law_515 : decode cL_law 515 = .ok (.ireturn, 1) := by decide +kernel
theorem dL_law_516 : decode cL_law 516 = .ok (.aload_n 1, 1) := by decide +kernel
theorem dL_law_517 : decode cL_law 517 = .ok (.aload_n 0, 1) := by decide +kernel
theorem dL_law_518 : decode cL_law 518 = .ok (.iload_n 3, 1) := by decide +kernel
theorem dL_law_519 : decode cL_law 519 = .ok (.iconst 1, 1) := by decide +kernel
theorem dL_law_520 : decode cL_law 520 = .ok (.iadd, 1) := by decide +kernel
theorem dL_law_521 : decode cL_law 521 = .ok (.iaload, 1) := by decide +kernel
theorem dL_law_522 : decode cL_law 522 = .ok (.aload_n 0, 1) := by decide +kernel
theorem dL_law_523 : decode cL_law 523 = .ok (.iload_n 3, 1) := by decide +kernel
theorem dL_law_524 : decode cL_law 524 = .ok (.iconst 2, 1) := by decide +kernel
theorem dL_law_525 : decode cL_law 525 = .ok (.iadd, 1) := by decide +kernel
theorem dL_law_526 : decode cL_law 526 = .ok (.iaload, 1) := by decide +kernel
theorem dL_law_527 : decode cL_law 527 = .ok (.invokevirtual 60, 3) := by decide +kernel
theorem dL_law_530 : decode cL_law 530 = .ok (.aload_n 2, 1) := by decide +kernel
theorem dL_law_531 : decode cL_law 531 = .ok (.aload_n 0, 1) := by decide +kernel
theorem dL_law_532 : decode cL_law 532 = .ok (.iload_n 3, 1) := by decide +kernel
theorem dL_law_533 : decode cL_law 533 = .ok (.iconst 1, 1) := by decide +kernel
theorem dL_law_534 : decode cL_law 534 = .ok (.iadd, 1) := by decide +kernel
theorem dL_law_535 : decode cL_law 535 = .ok (.iaload, 1) := by decide +kernel
theorem dL_law_536 : decode cL_law 536 = .ok (.aload_n 0, 1) := by decide +kernel
theorem dL_law_537 : decode cL_law 537 = .ok (.iload_n 3, 1) := by decide +kernel
theorem dL_law_538 : decode cL_law 538 = .ok (.iconst 2, 1) := by decide +kernel
theorem dL_law_539 : decode cL_law 539 = .ok (.iadd, 1) := by decide +kernel
theorem dL_law_540 : decode cL_law 540 = .ok (.iaload, 1) := by decide +kernel
theorem dL_law_541 : decode cL_law 541 = .ok (.invokevirtual 63, 3) := by decide +kernel
theorem dL_law_544 : decode cL_law 544 = .ok (.if_icmp .eq 663, 3) := by decide +kernel
theorem dL_law_547 : decode cL_law 547 = .ok (.iconst 0, 1) := by decide +kernel
theorem dL_law_548 : decode cL_law 548 = .ok (.ireturn, 1) := by decide +kernel
theorem dL_law_549 : decode cL_law 549 = .ok (.aload_n 1, 1) := by decide +kernel
theorem dL_law_550 : decode cL_law 550 = .ok (.aload_n 0, 1) := by decide +kernel
theorem dL_law_551 : decode cL_law 551 = .ok (.iload_n 3, 1) := by decide +kernel
theorem dL_law_552 : decode cL_law 552 = .ok (.iconst 1, 1) := by decide +kernel
theorem dL_law_553 : decode cL_law 553 = .ok (.iadd, 1) := by decide +kernel
theorem dL_law_554 : decode cL_law 554 = .ok (.iaload, 1) := by decide +kernel
theorem dL_law_555 : decode cL_law 555 = .ok (.aload_n 0, 1) := by decide +kernel
theorem dL_law_556 : decode cL_law 556 = .ok (.iload_n 3, 1) := by decide +kernel
theorem dL_law_557 : decode cL_law 557 = .ok (.iconst 2, 1) := by decide +kernel
theorem dL_law_558 : decode cL_law 558 = .ok (.iadd, 1) := by decide +kernel
theorem dL_law_559 : decode cL_law 559 = .ok (.iaload, 1) := by decide +kernel
theorem dL_law_560 : decode cL_law 560 = .ok (.invokevirtual 64, 3) := by decide +kernel
theorem dL_law_563 : decode cL_law 563 = .ok (.aload_n 2, 1) := by decide +kernel
theorem dL_law_564 : decode cL_law 564 = .ok (.aload_n 0, 1) := by decide +kernel
theorem dL_law_565 : decode cL_law 565 = .ok (.iload_n 3, 1) := by decide +kernel
theorem dL_law_566 : decode cL_law 566 = .ok (.iconst 1, 1) := by decide +kernel
theorem dL_law_567 : decode cL_law 567 = .ok (.iadd, 1) := by decide +kernel
theorem dL_law_568 : decode cL_law 568 = .ok (.iaload, 1) := by decide +kernel
theorem dL_law_569 : decode cL_law 569 = .ok (.aload_n 0, 1) := by decide +kernel
theorem dL_law_570 : decode cL_law 570 = .ok (.iload_n 3, 1) := by decide +kernel
theorem dL_law_571 : decode cL_law 571 = .ok (.iconst 2, 1) := by decide +kernel
theorem dL_law_572 : decode cL_law 572 = .ok (.iadd, 1) := by decide +kernel
theorem dL_law_573 : decode cL_law 573 = .ok (.iaload, 1) := by decide +kernel
theorem dL_law_574 : decode cL_law 574 = .ok (.invokevirtual 67, 3) := by decide +kernel
theorem dL_law_577 : decode cL_law 577 = .ok (.if_icmp .eq 630, 3) := by decide +kernel
theorem dL_law_580 : decode cL_law 580 = .ok (.iconst 0, 1) := by decide +kernel
theorem dL_law_581 : decode cL_law 581 = .ok (.ireturn, 1) := by decide +kernel
theorem dL_law_582 : decode cL_law 582 = .ok (.aload_n 1, 1) := by decide +kernel
theorem dL_law_583 : decode cL_law 583 = .ok (.invokevirtual 68, 3) := by decide +kernel
theorem dL_law_586 : decode cL_law 586 = .ok (.aload_n 2, 1) := by decide +kernel
theorem dL_law_587 : decode cL_law 587 = .ok (.invokevirtual 71, 3) := by decide +kernel
theorem dL_law_590 : decode cL_law 590 = .ok (.if_icmp .eq 617, 3) := by decide +kernel
theorem dL_law_593 : decode cL_law 593 = .ok (.iconst 0, 1) := by decide +kernel
theorem dL_law_594 : decode cL_law 594 = .ok (.ireturn, 1) := by decide +kernel
theorem dL_law_595 : decode cL_law 595 = .ok (.aload_n 1, 1) := by decide +kernel
theorem dL_law_596 : decode cL_law 596 = .ok (.aload_n 0, 1) := by decide +kernel
theorem dL_law_597 : decode cL_law 597 = .ok (.iload_n 3, 1) := by decide +kernel
theorem dL_law_598 : decode cL_law 598 = .ok (.iconst 1, 1) := by decide +kernel
theorem dL_law_599 : decode cL_law 599 = .ok (.iadd, 1) := by decide +kernel
theorem dL_law_600 : decode cL_law 600 = .ok (.iaload, 1) := by decide +kernel
theorem dL_law_601 : decode cL_law 601 = .ok (.invokevirtual 72, 3) := by decide +kernel
theorem dL_law_604 : decode cL_law 604 = .ok (.aload_n 2, 1) := by decide +kernel
theorem dL_law_605 : decode cL_law 605 = .ok (.aload_n 0, 1) := by decide +kernel
theorem dL_law_606 : decode cL_law 606 = .ok (.iload_n 3, 1) := by decide +kernel
theorem dL_law_607 : decode cL_law 607 = .ok (.iconst 1, 1) := by decide +kernel
theorem dL_law_608 : decode cL_law 608 = .ok (.iadd, 1) := by decide +kernel
theorem dL_law_609 : decode cL_law 609 = .ok (.iaload, 1) := by decide +kernel
theorem dL_law_610 : decode cL_law 610 = .ok (.invokevirtual 75, 3) := by decide +kernel
theorem dL_law_613 : decode cL_law 613 = .ok (.if_icmp .eq 594, 3) := by decide +kernel
theorem dL_law_616 : decode cL_law 616 = .ok (.iconst 0, 1) := by decide +kernel
theorem dL_law_617 : decode cL_law 617 = .ok (.ireturn, 1) := by decide +kernel
theorem dL_law_618 : decode cL_law 618 = .ok (.aload_n 1, 1) := by decide +kernel
theorem dL_law_619 : decode cL_law 619 = .ok (.invokevirtual 76, 3) := by decide +kernel
theorem dL_law_622 : decode cL_law 622 = .ok (.aload_n 2, 1) := by decide +kernel
theorem dL_law_623 : decode cL_law 623 = .ok (.invokevirtual 79, 3) := by decide +kernel
theorem dL_law_626 : decode cL_law 626 = .ok (.if_icmp .eq 581, 3) := by decide +kernel
theorem dL_law_629 : decode cL_law 629 = .ok (.iconst 0, 1) := by decide +kernel
theorem dL_law_630 : decode cL_law 630 = .ok (.ireturn, 1) := by decide +kernel
theorem dL_law_631 : decode cL_law 631 = .ok (.aload_n 1, 1) := by decide +kernel
theorem dL_law_632 : decode cL_law 632 = .ok (.aload_n 0, 1) := by decide +kernel
theorem dL_law_633 : decode cL_law 633 = .ok (.iload_n 3, 1) := by decide +kernel
theorem dL_law_634 : decode cL_law 634 = .ok (.iconst 1, 1) := by decide +kernel
theorem dL_law_635 : decode cL_law 635 = .ok (.iadd, 1) := by decide +kernel
theorem dL_law_636 : decode cL_law 636 = .ok (.iaload, 1) := by decide +kernel
theorem dL_law_637 : decode cL_law 637 = .ok (.aload_n 0, 1) := by decide +kernel
theorem dL_law_638 : decode cL_law 638 = .ok (.iload_n 3, 1) := by decide +kernel
theorem dL_law_639 : decode cL_law 639 = .ok (.iconst 2, 1) := by decide +kernel
theorem dL_law_640 : decode cL_law 640 = .ok (.iadd, 1) := by decide +kernel
theorem dL_law_641 : decode cL_law 641 = .ok (.iaload, 1) := by decide +kernel
theorem dL_law_642 : decode cL_law 642 = .ok (.invokevirtual 80, 3) := by decide +kernel
theorem dL_law_645 : decode cL_law 645 = .ok (.aload_n 2, 1) := by decide +kernel
theorem dL_law_646 : decode cL_law 646 = .ok (.aload_n 0, 1) := by decide +kernel
theorem dL_law_647 : decode cL_law 647 = .ok (.iload_n 3, 1) := by decide +kernel
theorem dL_law_648 : decode cL_law 648 = .ok (.iconst 1, 1) := by decide +kernel
theorem dL_law_649 : decode cL_law 649 = .ok (.iadd, 1) := by decide +kernel
theorem dL_law_650 : decode cL_law 650 = .ok (.iaload, 1) := by decide +kernel
theorem dL_law_651 : decode cL_law 651 = .ok (.aload_n 0, 1) := by decide +kernel
theorem dL_law_652 : decode cL_law 652 = .ok (.iload_n 3, 1) := by decide +kernel
theorem dL_law_653 : decode cL_law 653 = .ok (.iconst 2, 1) := by decide +kernel
theorem dL_law_654 : decode cL_law 654 = .ok (.iadd, 1) := by decide +kernel
theorem dL_law_655 : decode cL_law 655 = .ok (.iaload, 1) := by decide +kernel
theorem dL_law_656 : decode cL_law 656 = .ok (.invokevirtual 83, 3) := by decide +kernel
theorem dL_law_659 : decode cL_law 659 = .ok (.if_icmp .eq 548, 3) := by decide +kernel
theorem dL_law_662 : decode cL_law 662 = .ok (.iconst 0, 1) := by decide +kernel
theorem dL_law_663 : decode cL_law 663 = .ok (.ireturn, 1) := by decide +kernel
theorem dL_law_664 : decode cL_law 664 = .ok (.aload_n 1, 1) := by decide +kernel
theorem dL_law_665 : decode cL_law 665 = .ok (.aload_n 0, 1) := by decide +kernel
theorem dL_law_666 : decode cL_law 666 = .ok (.iload_n 3, 1) := by decide +kernel
theorem dL_law_667 : decode cL_law 667 = .ok (.iconst 1, 1) := by decide +kernel
theorem dL_law_668 : decode cL_law 668 = .ok (.iadd, 1) := by decide +kernel
theorem dL_law_669 : decode cL_law 669 = .ok (.iaload, 1) := by decide +kernel
theorem dL_law_670 : decode cL_law 670 = .ok (.invokevirtual 84, 3) := by decide +kernel
theorem dL_law_673 : decode cL_law 673 = .ok (.aload_n 2, 1) := by decide +kernel
theorem dL_law_674 : decode cL_law 674 = .ok (.aload_n 0, 1) := by decide +kernel
theorem dL_law_675 : decode cL_law 675 = .ok (.iload_n 3, 1) := by decide +kernel
theorem dL_law_676 : decode cL_law 676 = .ok (.iconst 1, 1) := by decide +kernel
theorem dL_law_677 : decode cL_law 677 = .ok (.iadd, 1) := by decide +kernel
theorem dL_law_678 : decode cL_law 678 = .ok (.iaload, 1) := by decide +kernel
theorem dL_law_679 : decode cL_law 679 = .ok (.invokevirtual 87, 3) := by decide +kernel
theorem dL_law_682 : decode cL_law 682 = .ok (.if_icmp .eq 525, 3) := by decide +kernel
theorem dL_law_685 : decode cL_law 685 = .ok (.iconst 0, 1) := by decide +kernel
theorem dL_law_686 : decode cL_law 686 = .ok (.ireturn, 1) := by decide +kernel
theorem dL_law_687 : decode cL_law 687 = .ok (.aload_n 1, 1) := by decide +kernel
theorem dL_law_688 : decode cL_law 688 = .ok (.aload_n 0, 1) := by decide +kernel
theorem dL_law_689 : decode cL_law 689 = .ok (.iload_n 3, 1) := by decide +kernel
theorem dL_law_690 : decode cL_law 690 = .ok (.iconst 1, 1) := by decide +kernel
theorem dL_law_691 : decode cL_law 691 = .ok (.iadd, 1) := by decide +kernel
theorem dL_law_692 : decode cL_law 692 = .ok (.iaload, 1) := by decide +kernel
theorem dL_law_693 : decode cL_law 693 = .ok (.aload_n 0, 1) := by decide +kernel
theorem dL_law_694 : decode cL_law 694 = .ok (.iload_n 3, 1) := by decide +kernel
theorem dL_law_695 : decode cL_law 695 = .ok (.iconst 2, 1) := by decide +kernel
theorem dL_law_696 : decode cL_law 696 = .ok (.iadd, 1) := by decide +kernel
theorem dL_law_697 : decode cL_law 697 = .ok (.iaload, 1) := by decide +kernel
theorem dL_law_698 : decode cL_law 698 = .ok (.aload_n 0, 1) := by decide +kernel
theorem dL_law_699 : decode cL_law 699 = .ok (.iload_n 3, 1) := by decide +kernel
theorem dL_law_700 : decode cL_law 700 = .ok (.iconst 3, 1) := by decide +kernel
theorem dL_law_701 : decode cL_law 701 = .ok (.iadd, 1) := by decide +kernel
theorem dL_law_702 : decode cL_law 702 = .ok (.iaload, 1) := by decide +kernel
theorem dL_law_703 : decode cL_law 703 = .ok (.aload_n 0, 1) := by decide +kernel
theorem dL_law_704 : decode cL_law 704 = .ok (.iload_n 3, 1) := by decide +kernel
theorem dL_law_705 : decode cL_law 705 = .ok (.iconst 4, 1) := by decide +kernel
theorem dL_law_706 : decode cL_law 706 = .ok (.iadd, 1) := by decide +kernel
theorem dL_law_707 : decode cL_law 707 = .ok (.iaload, 1) := by decide +kernel
theorem dL_law_708 : decode cL_law 708 = .ok (.invokevirtual 88, 3) := by decide +kernel
theorem dL_law_711 : decode cL_law 711 = .ok (.aload_n 2, 1) := by decide +kernel
theorem dL_law_712 : decode cL_law 712 = .ok (.aload_n 0, 1) := by decide +kernel
theorem dL_law_713 : decode cL_law 713 = .ok (.iload_n 3, 1) := by decide +kernel
theorem dL_law_714 : decode cL_law 714 = .ok (.iconst 1, 1) := by decide +kernel
theorem dL_law_715 : decode cL_law 715 = .ok (.iadd, 1) := by decide +kernel
theorem dL_law_716 : decode cL_law 716 = .ok (.iaload, 1) := by decide +kernel
theorem dL_law_717 : decode cL_law 717 = .ok (.aload_n 0, 1) := by decide +kernel
theorem dL_law_718 : decode cL_law 718 = .ok (.iload_n 3, 1) := by decide +kernel
theorem dL_law_719 : decode cL_law 719 = .ok (.iconst 2, 1) := by decide +kernel
theorem dL_law_720 : decode cL_law 720 = .ok (.iadd, 1) := by decide +kernel
theorem dL_law_721 : decode cL_law 721 = .ok (.iaload, 1) := by decide +kernel
theorem dL_law_722 : decode cL_law 722 = .ok (.aload_n 0, 1) := by decide +kernel
theorem dL_law_723 : decode cL_law 723 = .ok (.iload_n 3, 1) := by decide +kernel
theorem dL_law_724 : decode cL_law 724 = .ok (.iconst 3, 1) := by decide +kernel
theorem dL_law_725 : decode cL_law 725 = .ok (.iadd, 1) := by decide +kernel
theorem dL_law_726 : decode cL_law 726 = .ok (.iaload, 1) := by decide +kernel
theorem dL_law_727 : decode cL_law 727 = .ok (.aload_n 0, 1) := by decide +kernel
theorem dL_law_728 : decode cL_law 728 = .ok (.iload_n 3, 1) := by decide +kernel
theorem dL_law_729 : decode cL_law 729 = .ok (.iconst 4, 1) := by decide +kernel
theorem dL_law_730 : decode cL_law 730 = .ok (.iadd, 1) := by decide +kernel
theorem dL_law_731 : decode cL_law 731 = .ok (.iaload, 1) := by decide +kernel
theorem dL_law_732 : decode cL_law 732 = .ok (.invokevirtual 92, 3) := by decide +kernel
theorem dL_law_735 : decode cL_law 735 = .ok (.if_icmp .eq 472, 3) := by decide +kernel
theorem dL_law_738 : decode cL_law 738 = .ok (.iconst 0, 1) := by decide +kernel
theorem dL_law_739 : decode cL_law 739 = .ok (.ireturn, 1) := by decide +kernel
theorem dL_law_740 : decode cL_law 740 = .ok (.aload_n 1, 1) := by decide +kernel
theorem dL_law_741 : decode cL_law 741 = .ok (.aload_n 0, 1) := by decide +kernel
theorem dL_law_742 : decode cL_law 742 = .ok (.iload_n 3, 1) := by decide +kernel
theorem dL_law_743 : decode cL_law 743 = .ok (.iconst 1, 1) := by decide +kernel
theorem dL_law_744 : decode cL_law 744 = .ok (.iadd, 1) := by decide +kernel
theorem dL_law_745 : decode cL_law 745 = .ok (.iaload, 1) := by decide +kernel
theorem dL_law_746 : decode cL_law 746 = .ok (.aload_n 0, 1) := by decide +kernel
theorem dL_law_747 : decode cL_law 747 = .ok (.iload_n 3, 1) := by decide +kernel
theorem dL_law_748 : decode cL_law 748 = .ok (.iconst 2, 1) := by decide +kernel
theorem dL_law_749 : decode cL_law 749 = .ok (.iadd, 1) := by decide +kernel
theorem dL_law_750 : decode cL_law 750 = .ok (.iaload, 1) := by decide +kernel
theorem dL_law_751 : decode cL_law 751 = .ok (.invokevirtual 93, 3) := by decide +kernel
theorem dL_law_754 : decode cL_law 754 = .ok (.aload_n 2, 1) := by decide +kernel
theorem dL_law_755 : decode cL_law 755 = .ok (.aload_n 0, 1) := by decide +kernel
theorem dL_law_756 : decode cL_law 756 = .ok (.iload_n 3, 1) := by decide +kernel
theorem dL_law_757 : decode cL_law 757 = .ok (.iconst 1, 1) := by decide +kernel
theorem dL_law_758 : decode cL_law 758 = .ok (.iadd, 1) := by decide +kernel
theorem dL_law_759 : decode cL_law 759 = .ok (.iaload, 1) := by decide +kernel
theorem dL_law_760 : decode cL_law 760 = .ok (.aload_n 0, 1) := by decide +kernel
theorem dL_law_761 : decode cL_law 761 = .ok (.iload_n 3, 1) := by decide +kernel
theorem dL_law_762 : decode cL_law 762 = .ok (.iconst 2, 1) := by decide +kernel
theorem dL_law_763 : decode cL_law 763 = .ok (.iadd, 1) := by decide +kernel
theorem dL_law_764 : decode cL_law 764 = .ok (.iaload, 1) := by decide +kernel
theorem dL_law_765 : decode cL_law 765 = .ok (.invokevirtual 96, 3) := by decide +kernel
theorem dL_law_768 : decode cL_law 768 = .ok (.if_icmp .eq 439, 3) := by decide +kernel
theorem dL_law_771 : decode cL_law 771 = .ok (.iconst 0, 1) := by decide +kernel
theorem dL_law_772 : decode cL_law 772 = .ok (.ireturn, 1) := by decide +kernel
theorem dL_law_773 : decode cL_law 773 = .ok (.aload_n 1, 1) := by decide +kernel
theorem dL_law_774 : decode cL_law 774 = .ok (.aload_n 0, 1) := by decide +kernel
theorem dL_law_775 : decode cL_law 775 = .ok (.iload_n 3, 1) := by decide +kernel
theorem dL_law_776 : decode cL_law 776 = .ok (.iconst 1, 1) := by decide +kernel
theorem dL_law_777 : decode cL_law 777 = .ok (.iadd, 1) := by decide +kernel
theorem dL_law_778 : decode cL_law 778 = .ok (.iaload, 1) := by decide +kernel
theorem dL_law_779 : decode cL_law 779 = .ok (.aload_n 0, 1) := by decide +kernel
theorem dL_law_780 : decode cL_law 780 = .ok (.iload_n 3, 1) := by decide +kernel
theorem dL_law_781 : decode cL_law 781 = .ok (.iconst 2, 1) := by decide +kernel
theorem dL_law_782 : decode cL_law 782 = .ok (.iadd, 1) := by decide +kernel
theorem dL_law_783 : decode cL_law 783 = .ok (.iaload, 1) := by decide +kernel
theorem dL_law_784 : decode cL_law 784 = .ok (.aload_n 0, 1) := by decide +kernel
theorem dL_law_785 : decode cL_law 785 = .ok (.iload_n 3, 1) := by decide +kernel
theorem dL_law_786 : decode cL_law 786 = .ok (.iconst 3, 1) := by decide +kernel
theorem dL_law_787 : decode cL_law 787 = .ok (.iadd, 1) := by decide +kernel
theorem dL_law_788 : decode cL_law 788 = .ok (.iaload, 1) := by decide +kernel
theorem dL_law_789 : decode cL_law 789 = .ok (.invokevirtual 97, 3) := by decide +kernel
theorem dL_law_792 : decode cL_law 792 = .ok (.aload_n 2, 1) := by decide +kernel
theorem dL_law_793 : decode cL_law 793 = .ok (.aload_n 0, 1) := by decide +kernel
theorem dL_law_794 : decode cL_law 794 = .ok (.iload_n 3, 1) := by decide +kernel
theorem dL_law_795 : decode cL_law 795 = .ok (.iconst 1, 1) := by decide +kernel
theorem dL_law_796 : decode cL_law 796 = .ok (.iadd, 1) := by decide +kernel
theorem dL_law_797 : decode cL_law 797 = .ok (.iaload, 1) := by decide +kernel
theorem dL_law_798 : decode cL_law 798 = .ok (.aload_n 0, 1) := by decide +kernel
theorem dL_law_799 : decode cL_law 799 = .ok (.iload_n 3, 1) := by decide +kernel
theorem dL_law_800 : decode cL_law 800 = .ok (.iconst 2, 1) := by decide +kernel
theorem dL_law_801 : decode cL_law 801 = .ok (.iadd, 1) := by decide +kernel
theorem dL_law_802 : decode cL_law 802 = .ok (.iaload, 1) := by decide +kernel
theorem dL_law_803 : decode cL_law 803 = .ok (.aload_n 0, 1) := by decide +kernel
theorem dL_law_804 : decode cL_law 804 = .ok (.iload_n 3, 1) := by decide +kernel
theorem dL_law_805 : decode cL_law 805 = .ok (.iconst 3, 1) := by decide +kernel
theorem dL_law_806 : decode cL_law 806 = .ok (.iadd, 1) := by decide +kernel
theorem dL_law_807 : decode cL_law 807 = .ok (.iaload, 1) := by decide +kernel
theorem dL_law_808 : decode cL_law 808 = .ok (.invokevirtual 100, 3) := by decide +kernel
theorem dL_law_811 : decode cL_law 811 = .ok (.if_icmp .eq 396, 3) := by decide +kernel
theorem dL_law_814 : decode cL_law 814 = .ok (.iconst 0, 1) := by decide +kernel
theorem dL_law_815 : decode cL_law 815 = .ok (.ireturn, 1) := by decide +kernel
theorem dL_law_816 : decode cL_law 816 = .ok (.aload_n 1, 1) := by decide +kernel
theorem dL_law_817 : decode cL_law 817 = .ok (.aload_n 0, 1) := by decide +kernel
theorem dL_law_818 : decode cL_law 818 = .ok (.iload_n 3, 1) := by decide +kernel
theorem dL_law_819 : decode cL_law 819 = .ok (.iconst 1, 1) := by decide +kernel
theorem dL_law_820 : decode cL_law 820 = .ok (.iadd, 1) := by decide +kernel
theorem dL_law_821 : decode cL_law 821 = .ok (.iaload, 1) := by decide +kernel
theorem dL_law_822 : decode cL_law 822 = .ok (.invokevirtual 101, 3) := by decide +kernel
theorem dL_law_825 : decode cL_law 825 = .ok (.aload_n 2, 1) := by decide +kernel
theorem dL_law_826 : decode cL_law 826 = .ok (.aload_n 0, 1) := by decide +kernel
theorem dL_law_827 : decode cL_law 827 = .ok (.iload_n 3, 1) := by decide +kernel
theorem dL_law_828 : decode cL_law 828 = .ok (.iconst 1, 1) := by decide +kernel
theorem dL_law_829 : decode cL_law 829 = .ok (.iadd, 1) := by decide +kernel
theorem dL_law_830 : decode cL_law 830 = .ok (.iaload, 1) := by decide +kernel
theorem dL_law_831 : decode cL_law 831 = .ok (.invokevirtual 104, 3) := by decide +kernel
theorem dL_law_834 : decode cL_law 834 = .ok (.if_icmp .eq 373, 3) := by decide +kernel
theorem dL_law_837 : decode cL_law 837 = .ok (.iconst 0, 1) := by decide +kernel
theorem dL_law_838 : decode cL_law 838 = .ok (.ireturn, 1) := by decide +kernel
theorem dL_law_839 : decode cL_law 839 = .ok (.aload_n 1, 1) := by decide +kernel
theorem dL_law_840 : decode cL_law 840 = .ok (.aload_n 0, 1) := by decide +kernel
theorem dL_law_841 : decode cL_law 841 = .ok (.iload_n 3, 1) := by decide +kernel
theorem dL_law_842 : decode cL_law 842 = .ok (.iconst 1, 1) := by decide +kernel
theorem dL_law_843 : decode cL_law 843 = .ok (.iadd, 1) := by decide +kernel
theorem dL_law_844 : decode cL_law 844 = .ok (.iaload, 1) := by decide +kernel
theorem dL_law_845 : decode cL_law 845 = .ok (.invokevirtual 105, 3) := by decide +kernel
theorem dL_law_848 : decode cL_law 848 = .ok (.aload_n 2, 1) := by decide +kernel
theorem dL_law_849 : decode cL_law 849 = .ok (.aload_n 0, 1) := by decide +kernel
theorem dL_law_850 : decode cL_law 850 = .ok (.iload_n 3, 1) := by decide +kernel
theorem dL_law_851 : decode cL_law 851 = .ok (.iconst 1, 1) := by decide +kernel
theorem dL_law_852 : decode cL_law 852 = .ok (.iadd, 1) := by decide +kernel
theorem dL_law_853 : decode cL_law 853 = .ok (.iaload, 1) := by decide +kernel
theorem dL_law_854 : decode cL_law 854 = .ok (.invokevirtual 108, 3) := by decide +kernel
theorem dL_law_857 : decode cL_law 857 = .ok (.if_icmp .eq 350, 3) := by decide +kernel
theorem dL_law_860 : decode cL_law 860 = .ok (.iconst 0, 1) := by decide +kernel
theorem dL_law_861 : decode cL_law 861 = .ok (.ireturn, 1) := by decide +kernel
theorem dL_law_862 : decode cL_law 862 = .ok (.aload_n 1, 1) := by decide +kernel
theorem dL_law_863 : decode cL_law 863 = .ok (.aload_n 0, 1) := by decide +kernel
theorem dL_law_864 : decode cL_law 864 = .ok (.iload_n 3, 1) := by decide +kernel
theorem dL_law_865 : decode cL_law 865 = .ok (.iconst 1, 1) := by decide +kernel
theorem dL_law_866 : decode cL_law 866 = .ok (.iadd, 1) := by decide +kernel
theorem dL_law_867 : decode cL_law 867 = .ok (.iaload, 1) := by decide +kernel
theorem dL_law_868 : decode cL_law 868 = .ok (.aload_n 0, 1) := by decide +kernel
theorem dL_law_869 : decode cL_law 869 = .ok (.iload_n 3, 1) := by decide +kernel
theorem dL_law_870 : decode cL_law 870 = .ok (.iconst 2, 1) := by decide +kernel
theorem dL_law_871 : decode cL_law 871 = .ok (.iadd, 1) := by decide +kernel
theorem dL_law_872 : decode cL_law 872 = .ok (.iaload, 1) := by decide +kernel
theorem dL_law_873 : decode cL_law 873 = .ok (.invokevirtual 109, 3) := by decide +kernel
theorem dL_law_876 : decode cL_law 876 = .ok (.aload_n 2, 1) := by decide +kernel
theorem dL_law_877 : decode cL_law 877 = .ok (.aload_n 0, 1) := by decide +kernel
theorem dL_law_878 : decode cL_law 878 = .ok (.iload_n 3, 1) := by decide +kernel
theorem dL_law_879 : decode cL_law 879 = .ok (.iconst 1, 1) := by decide +kernel
theorem dL_law_880 : decode cL_law 880 = .ok (.iadd, 1) := by decide +kernel
theorem dL_law_881 : decode cL_law 881 = .ok (.iaload, 1) := by decide +kernel
theorem dL_law_882 : decode cL_law 882 = .ok (.aload_n 0, 1) := by decide +kernel
theorem dL_law_883 : decode cL_law 883 = .ok (.iload_n 3, 1) := by decide +kernel
theorem dL_law_884 : decode cL_law 884 = .ok (.iconst 2, 1) := by decide +kernel
theorem dL_law_885 : decode cL_law 885 = .ok (.iadd, 1) := by decide +kernel
theorem dL_law_886 : decode cL_law 886 = .ok (.iaload, 1) := by decide +kernel
theorem dL_law_887 : decode cL_law 887 = .ok (.invokevirtual 112, 3) := by decide +kernel
theorem dL_law_890 : decode cL_law 890 = .ok (.if_icmp .eq 317, 3) := by decide +kernel
theorem dL_law_893 : decode cL_law 893 = .ok (.iconst 0, 1) := by decide +kernel
theorem dL_law_894 : decode cL_law 894 = .ok (.ireturn, 1) := by decide +kernel
theorem dL_law_895 : decode cL_law 895 = .ok (.aload_n 1, 1) := by decide +kernel
theorem dL_law_896 : decode cL_law 896 = .ok (.aload_n 0, 1) := by decide +kernel
theorem dL_law_897 : decode cL_law 897 = .ok (.iload_n 3, 1) := by decide +kernel
theorem dL_law_898 : decode cL_law 898 = .ok (.iconst 1, 1) := by decide +kernel
theorem dL_law_899 : decode cL_law 899 = .ok (.iadd, 1) := by decide +kernel
theorem dL_law_900 : decode cL_law 900 = .ok (.iaload, 1) := by decide +kernel
theorem dL_law_901 : decode cL_law 901 = .ok (.aload_n 0, 1) := by decide +kernel
theorem dL_law_902 : decode cL_law 902 = .ok (.iload_n 3, 1) := by decide +kernel
theorem dL_law_903 : decode cL_law 903 = .ok (.iconst 2, 1) := by decide +kernel
theorem dL_law_904 : decode cL_law 904 = .ok (.iadd, 1) := by decide +kernel
theorem dL_law_905 : decode cL_law 905 = .ok (.iaload, 1) := by decide +kernel
theorem dL_law_906 : decode cL_law 906 = .ok (.invokevirtual 113, 3) := by decide +kernel
theorem dL_law_909 : decode cL_law 909 = .ok (.aload_n 2, 1) := by decide +kernel
theorem dL_law_910 : decode cL_law 910 = .ok (.aload_n 0, 1) := by decide +kernel
theorem dL_law_911 : decode cL_law 911 = .ok (.iload_n 3, 1) := by decide +kernel
theorem dL_law_912 : decode cL_law 912 = .ok (.iconst 1, 1) := by decide +kernel
theorem dL_law_913 : decode cL_law 913 = .ok (.iadd, 1) := by decide +kernel
theorem dL_law_914 : decode cL_law 914 = .ok (.iaload, 1) := by decide +kernel
theorem dL_law_915 : decode cL_law 915 = .ok (.aload_n 0, 1) := by decide +kernel
theorem dL_law_916 : decode cL_law 916 = .ok (.iload_n 3, 1) := by decide +kernel
theorem dL_law_917 : decode cL_law 917 = .ok (.iconst 2, 1) := by decide +kernel
theorem dL_law_918 : decode cL_law 918 = .ok (.iadd, 1) := by decide +kernel
theorem dL_law_919 : decode cL_law 919 = .ok (.iaload, 1) := by decide +kernel
theorem dL_law_920 : decode cL_law 920 = .ok (.invokevirtual 116, 3) := by decide +kernel
theorem dL_law_923 : decode cL_law 923 = .ok (.if_icmp .eq 284, 3) := by decide +kernel
theorem dL_law_926 : decode cL_law 926 = .ok (.iconst 0, 1) := by decide +kernel
theorem dL_law_927 : decode cL_law 927 = .ok (.ireturn, 1) := by decide +kernel
theorem dL_law_928 : decode cL_law 928 = .ok (.aload_n 1, 1) := by decide +kernel
theorem dL_law_929 : decode cL_law 929 = .ok (.aload_n 0, 1) := by decide +kernel
theorem dL_law_930 : decode cL_law 930 = .ok (.iload_n 3, 1) := by decide +kernel
theorem dL_law_931 : decode cL_law 931 = .ok (.iconst 1, 1) := by decide +kernel
theorem dL_law_932 : decode cL_law 932 = .ok (.iadd, 1) := by decide +kernel
theorem dL_law_933 : decode cL_law 933 = .ok (.iaload, 1) := by decide +kernel
theorem dL_law_934 : decode cL_law 934 = .ok (.invokevirtual 117, 3) := by decide +kernel
theorem dL_law_937 : decode cL_law 937 = .ok (.aload_n 2, 1) := by decide +kernel
theorem dL_law_938 : decode cL_law 938 = .ok (.aload_n 0, 1) := by decide +kernel
theorem dL_law_939 : decode cL_law 939 = .ok (.iload_n 3, 1) := by decide +kernel
theorem dL_law_940 : decode cL_law 940 = .ok (.iconst 1, 1) := by decide +kernel
theorem dL_law_941 : decode cL_law 941 = .ok (.iadd, 1) := by decide +kernel
theorem dL_law_942 : decode cL_law 942 = .ok (.iaload, 1) := by decide +kernel
theorem dL_law_943 : decode cL_law 943 = .ok (.invokevirtual 120, 3) := by decide +kernel
theorem dL_law_946 : decode cL_law 946 = .ok (.if_icmp .eq 261, 3) := by decide +kernel
theorem dL_law_949 : decode cL_law 949 = .ok (.iconst 0, 1) := by decide +kernel
theorem dL_law_950 : decode cL_law 950 = .ok (.ireturn, 1) := by decide +kernel
theorem dL_law_951 : decode cL_law 951 = .ok (.aload_n 1, 1) := by decide +kernel
theorem dL_law_952 : decode cL_law 952 = .ok (.aload_n 0, 1) := by decide +kernel
theorem dL_law_953 : decode cL_law 953 = .ok (.iload_n 3, 1) := by decide +kernel
theorem dL_law_954 : decode cL_law 954 = .ok (.iconst 1, 1) := by decide +kernel
theorem dL_law_955 : decode cL_law 955 = .ok (.iadd, 1) := by decide +kernel
theorem dL_law_956 : decode cL_law 956 = .ok (.iaload, 1) := by decide +kernel
theorem dL_law_957 : decode cL_law 957 = .ok (.invokevirtual 121, 3) := by decide +kernel
theorem dL_law_960 : decode cL_law 960 = .ok (.aload_n 2, 1) := by decide +kernel
theorem dL_law_961 : decode cL_law 961 = .ok (.aload_n 0, 1) := by decide +kernel
theorem dL_law_962 : decode cL_law 962 = .ok (.iload_n 3, 1) := by decide +kernel
theorem dL_law_963 : decode cL_law 963 = .ok (.iconst 1, 1) := by decide +kernel
theorem dL_law_964 : decode cL_law 964 = .ok (.iadd, 1) := by decide +kernel
theorem dL_law_965 : decode cL_law 965 = .ok (.iaload, 1) := by decide +kernel
theorem dL_law_966 : decode cL_law 966 = .ok (.invokevirtual 124, 3) := by decide +kernel
theorem dL_law_969 : decode cL_law 969 = .ok (.if_icmp .eq 238, 3) := by decide +kernel
theorem dL_law_972 : decode cL_law 972 = .ok (.iconst 0, 1) := by decide +kernel
theorem dL_law_973 : decode cL_law 973 = .ok (.ireturn, 1) := by decide +kernel
theorem dL_law_974 : decode cL_law 974 = .ok (.aload_n 1, 1) := by decide +kernel
theorem dL_law_975 : decode cL_law 975 = .ok (.invokevirtual 125, 3) := by decide +kernel
theorem dL_law_978 : decode cL_law 978 = .ok (.aload_n 2, 1) := by decide +kernel
theorem dL_law_979 : decode cL_law 979 = .ok (.invokevirtual 128, 3) := by decide +kernel
theorem dL_law_982 : decode cL_law 982 = .ok (.if_icmp .eq 225, 3) := by decide +kernel
theorem dL_law_985 : decode cL_law 985 = .ok (.iconst 0, 1) := by decide +kernel
theorem dL_law_986 : decode cL_law 986 = .ok (.ireturn, 1) := by decide +kernel
theorem dL_law_987 : decode cL_law 987 = .ok (.aload_n 1, 1) := by decide +kernel
theorem dL_law_988 : decode cL_law 988 = .ok (.aload_n 0, 1) := by decide +kernel
theorem dL_law_989 : decode cL_law 989 = .ok (.iload_n 3, 1) := by decide +kernel
theorem dL_law_990 : decode cL_law 990 = .ok (.iconst 1, 1) := by decide +kernel
theorem dL_law_991 : decode cL_law 991 = .ok (.iadd, 1) := by decide +kernel
theorem dL_law_992 : decode cL_law 992 = .ok (.iaload, 1) := by decide +kernel
theorem dL_law_993 : decode cL_law 993 = .ok (.invokevirtual 129, 3) := by decide +kernel
theorem dL_law_996 : decode cL_law 996 = .ok (.aload_n 2, 1) := by decide +kernel
theorem dL_law_997 : decode cL_law 997 = .ok (.aload_n 0, 1) := by decide +kernel
theorem dL_law_998 : decode cL_law 998 = .ok (.iload_n 3, 1) := by decide +kernel
theorem dL_law_999 : decode cL_law 999 = .ok (.iconst 1, 1) := by decide +kernel
theorem dL_law_1000 : decode cL_law 1000 = .ok (.iadd, 1) := by decide +kernel
theorem dL_law_1001 : decode cL_law 1001 = .ok (.iaload, 1) := by decide +kernel
theorem dL_law_1002 : decode cL_law 1002 = .ok (.invokevirtual 132, 3) := by decide +kernel
theorem dL_law_1005 : decode cL_law 1005 = .ok (.if_icmp .eq 202, 3) := by decide +kernel
theorem dL_law_1008 : decode cL_law 1008 = .ok (.iconst 0, 1) := by decide +kernel
theorem dL_law_1009 : decode cL_law 1009 = .ok (.ireturn, 1) := by decide +kernel
theorem dL_law_1010 : decode cL_law 1010 = .ok (.aload_n 1, 1) := by decide +kernel
theorem dL_law_1011 : decode cL_law 1011 = .ok (.aload_n 0, 1) := by decide +kernel
theorem dL_law_1012 : decode cL_law 1012 = .ok (.iload_n 3, 1) := by decide +kernel
theorem dL_law_1013 : decode cL_law 1013 = .ok (.iconst 1, 1) := by decide +kernel
theorem dL_law_1014 : decode cL_law 1014 = .ok (.iadd, 1) := by decide +kernel
theorem dL_law_1015 : decode cL_law 1015 = .ok (.iaload, 1) := by decide +kernel
theorem dL_law_1016 : decode cL_law 1016 = .ok (.aload_n 0, 1) := by decide +kernel
theorem dL_law_1017 : decode cL_law 1017 = .ok (.iload_n 3, 1) := by decide +kernel
theorem dL_law_1018 : decode cL_law 1018 = .ok (.iconst 2, 1) := by decide +kernel
theorem dL_law_1019 : decode cL_law 1019 = .ok (.iadd, 1) := by decide +kernel
theorem dL_law_1020 : decode cL_law 1020 = .ok (.iaload, 1) := by decide +kernel
theorem dL_law_1021 : decode cL_law 1021 = .ok (.invokevirtual 133, 3) := by decide +kernel
theorem dL_law_1024 : decode cL_law 1024 = .ok (.aload_n 2, 1) := by decide +kernel
theorem dL_law_1025 : decode cL_law 1025 = .ok (.aload_n 0, 1) := by decide +kernel
theorem dL_law_1026 : decode cL_law 1026 = .ok (.iload_n 3, 1) := by decide +kernel
theorem dL_law_1027 : decode cL_law 1027 = .ok (.iconst 1, 1) := by decide +kernel
theorem dL_law_1028 : decode cL_law 1028 = .ok (.iadd, 1) := by decide +kernel
theorem dL_law_1029 : decode cL_law 1029 = .ok (.iaload, 1) := by decide +kernel
theorem dL_law_1030 : decode cL_law 1030 = .ok (.aload_n 0, 1) := by decide +kernel
theorem dL_law_1031 : decode cL_law 1031 = .ok (.iload_n 3, 1) := by decide +kernel
theorem dL_law_1032 : decode cL_law 1032 = .ok (.iconst 2, 1) := by decide +kernel
theorem dL_law_1033 : decode cL_law 1033 = .ok (.iadd, 1) := by decide +kernel
theorem dL_law_1034 : decode cL_law 1034 = .ok (.iaload, 1) := by decide +kernel
theorem dL_law_1035 : decode cL_law 1035 = .ok (.invokevirtual 136, 3) := by decide +kernel
theorem dL_law_1038 : decode cL_law 1038 = .ok (.if_icmp .eq 169, 3) := by decide +kernel
theorem dL_law_1041 : decode cL_law 1041 = .ok (.iconst 0, 1) := by decide +kernel
theorem dL_law_1042 : decode cL_law 1042 = .ok (.ireturn, 1) := by decide +kernel
theorem dL_law_1043 : decode cL_law 1043 = .ok (.aload_n 1, 1) := by decide +kernel
theorem dL_law_1044 : decode cL_law 1044 = .ok (.aload_n 0, 1) := by decide +kernel
theorem dL_law_1045 : decode cL_law 1045 = .ok (.iload_n 3, 1) := by decide +kernel
theorem dL_law_1046 : decode cL_law 1046 = .ok (.iconst 1, 1) := by decide +kernel
theorem dL_law_1047 : decode cL_law 1047 = .ok (.iadd, 1) := by decide +kernel
theorem dL_law_1048 : decode cL_law 1048 = .ok (.iaload, 1) := by decide +kernel
theorem dL_law_1049 : decode cL_law 1049 = .ok (.invokevirtual 137, 3) := by decide +kernel
theorem dL_law_1052 : decode cL_law 1052 = .ok (.aload_n 2, 1) := by decide +kernel
theorem dL_law_1053 : decode cL_law 1053 = .ok (.aload_n 0, 1) := by decide +kernel
theorem dL_law_1054 : decode cL_law 1054 = .ok (.iload_n 3, 1) := by decide +kernel
theorem dL_law_1055 : decode cL_law 1055 = .ok (.iconst 1, 1) := by decide +kernel
theorem dL_law_1056 : decode cL_law 1056 = .ok (.iadd, 1) := by decide +kernel
theorem dL_law_1057 : decode cL_law 1057 = .ok (.iaload, 1) := by decide +kernel
theorem dL_law_1058 : decode cL_law 1058 = .ok (.invokevirtual 140, 3) := by decide +kernel
theorem dL_law_1061 : decode cL_law 1061 = .ok (.if_icmp .eq 146, 3) := by decide +kernel
theorem dL_law_1064 : decode cL_law 1064 = .ok (.iconst 0, 1) := by decide +kernel
theorem dL_law_1065 : decode cL_law 1065 = .ok (.ireturn, 1) := by decide +kernel
theorem dL_law_1066 : decode cL_law 1066 = .ok (.aload_n 1, 1) := by decide +kernel
theorem dL_law_1067 : decode cL_law 1067 = .ok (.aload_n 0, 1) := by decide +kernel
theorem dL_law_1068 : decode cL_law 1068 = .ok (.iload_n 3, 1) := by decide +kernel
theorem dL_law_1069 : decode cL_law 1069 = .ok (.iconst 1, 1) := by decide +kernel
theorem dL_law_1070 : decode cL_law 1070 = .ok (.iadd, 1) := by decide +kernel
theorem dL_law_1071 : decode cL_law 1071 = .ok (.iaload, 1) := by decide +kernel
theorem dL_law_1072 : decode cL_law 1072 = .ok (.invokevirtual 141, 3) := by decide +kernel
theorem dL_law_1075 : decode cL_law 1075 = .ok (.aload_n 2, 1) := by decide +kernel
theorem dL_law_1076 : decode cL_law 1076 = .ok (.aload_n 0, 1) := by decide +kernel
theorem dL_law_1077 : decode cL_law 1077 = .ok (.iload_n 3, 1) := by decide +kernel
theorem dL_law_1078 : decode cL_law 1078 = .ok (.iconst 1, 1) := by decide +kernel
theorem dL_law_1079 : decode cL_law 1079 = .ok (.iadd, 1) := by decide +kernel
theorem dL_law_1080 : decode cL_law 1080 = .ok (.iaload, 1) := by decide +kernel
theorem dL_law_1081 : decode cL_law 1081 = .ok (.invokevirtual 144, 3) := by decide +kernel
theorem dL_law_1084 : decode cL_law 1084 = .ok (.if_icmp .eq 123, 3) := by decide +kernel
theorem dL_law_1087 : decode cL_law 1087 = .ok (.iconst 0, 1) := by decide +kernel
theorem dL_law_1088 : decode cL_law 1088 = .ok (.ireturn, 1) := by decide +kernel
theorem dL_law_1089 : decode cL_law 1089 = .ok (.aload_n 1, 1) := by decide +kernel
theorem dL_law_1090 : decode cL_law 1090 = .ok (.aload_n 0, 1) := by decide +kernel
theorem dL_law_1091 : decode cL_law 1091 = .ok (.iload_n 3, 1) := by decide +kernel
theorem dL_law_1092 : decode cL_law 1092 = .ok (.iconst 1, 1) := by decide +kernel
theorem dL_law_1093 : decode cL_law 1093 = .ok (.iadd, 1) := by decide +kernel
theorem dL_law_1094 : decode cL_law 1094 = .ok (.iaload, 1) := by decide +kernel
theorem dL_law_1095 : decode cL_law 1095 = .ok (.invokevirtual 145, 3) := by decide +kernel
theorem dL_law_1098 : decode cL_law 1098 = .ok (.aload_n 2, 1) := by decide +kernel
theorem dL_law_1099 : decode cL_law 1099 = .ok (.aload_n 0, 1) := by decide +kernel
theorem dL_law_1100 : decode cL_law 1100 = .ok (.iload_n 3, 1) := by decide +kernel
theorem dL_law_1101 : decode cL_law 1101 = .ok (.iconst 1, 1) := by decide +kernel
theorem dL_law_1102 : decode cL_law 1102 = .ok (.iadd, 1) := by decide +kernel
theorem dL_law_1103 : decode cL_law 1103 = .ok (.iaload, 1) := by decide +kernel
theorem dL_law_1104 : decode cL_law 1104 = .ok (.invokevirtual 148, 3) := by decide +kernel
theorem dL_law_1107 : decode cL_law 1107 = .ok (.if_icmp .eq 100, 3) := by decide +kernel
theorem dL_law_1110 : decode cL_law 1110 = .ok (.iconst 0, 1) := by decide +kernel
theorem dL_law_1111 : decode cL_law 1111 = .ok (.ireturn, 1) := by decide +kernel
theorem dL_law_1112 : decode cL_law 1112 = .ok (.aload_n 1, 1) := by decide +kernel
theorem dL_law_1113 : decode cL_law 1113 = .ok (.aload_n 0, 1) := by decide +kernel
theorem dL_law_1114 : decode cL_law 1114 = .ok (.iload_n 3, 1) := by decide +kernel
theorem dL_law_1115 : decode cL_law 1115 = .ok (.iconst 1, 1) := by decide +kernel
theorem dL_law_1116 : decode cL_law 1116 = .ok (.iadd, 1) := by decide +kernel
theorem dL_law_1117 : decode cL_law 1117 = .ok (.iaload, 1) := by decide +kernel
theorem dL_law_1118 : decode cL_law 1118 = .ok (.aload_n 0, 1) := by decide +kernel
theorem dL_law_1119 : decode cL_law 1119 = .ok (.iload_n 3, 1) := by decide +kernel
theorem dL_law_1120 : decode cL_law 1120 = .ok (.iconst 2, 1) := by decide +kernel
theorem dL_law_1121 : decode cL_law 1121 = .ok (.iadd, 1) := by decide +kernel
theorem dL_law_1122 : decode cL_law 1122 = .ok (.iaload, 1) := by decide +kernel
theorem dL_law_1123 : decode cL_law 1123 = .ok (.invokevirtual 149, 3) := by decide +kernel
theorem dL_law_1126 : decode cL_law 1126 = .ok (.aload_n 2, 1) := by decide +kernel
theorem dL_law_1127 : decode cL_law 1127 = .ok (.aload_n 0, 1) := by decide +kernel
theorem dL_law_1128 : decode cL_law 1128 = .ok (.iload_n 3, 1) := by decide +kernel
theorem dL_law_1129 : decode cL_law 1129 = .ok (.iconst 1, 1) := by decide +kernel
theorem dL_law_1130 : decode cL_law 1130 = .ok (.iadd, 1) := by decide +kernel
theorem dL_law_1131 : decode cL_law 1131 = .ok (.iaload, 1) := by decide +kernel
theorem dL_law_1132 : decode cL_law 1132 = .ok (.aload_n 0, 1) := by decide +kernel
theorem dL_law_1133 : decode cL_law 1133 = .ok (.iload_n 3, 1) := by decide +kernel
theorem dL_law_1134 : decode cL_law 1134 = .ok (.iconst 2, 1) := by decide +kernel
theorem dL_law_1135 : decode cL_law 1135 = .ok (.iadd, 1) := by decide +kernel
theorem dL_law_1136 : decode cL_law 1136 = .ok (.iaload, 1) := by decide +kernel
theorem dL_law_1137 : decode cL_law 1137 = .ok (.invokevirtual 152, 3) := by decide +kernel
theorem dL_law_1140 : decode cL_law 1140 = .ok (.if_icmp .eq 67, 3) := by decide +kernel
theorem dL_law_1143 : decode cL_law 1143 = .ok (.iconst 0, 1) := by decide +kernel
theorem dL_law_1144 : decode cL_law 1144 = .ok (.ireturn, 1) := by decide +kernel
theorem dL_law_1145 : decode cL_law 1145 = .ok (.aload_n 1, 1) := by decide +kernel
theorem dL_law_1146 : decode cL_law 1146 = .ok (.invokevirtual 153, 3) := by decide +kernel
theorem dL_law_1149 : decode cL_law 1149 = .ok (.aload_n 2, 1) := by decide +kernel
theorem dL_law_1150 : decode cL_law 1150 = .ok (.invokevirtual 156, 3) := by decide +kernel
theorem dL_law_1153 : decode cL_law 1153 = .ok (.if_icmp .eq 54, 3) := by decide +kernel
theorem dL_law_1156 : decode cL_law 1156 = .ok (.iconst 0, 1) := by decide +kernel
theorem dL_law_1157 : decode cL_law 1157 = .ok (.ireturn, 1) := by decide +kernel
theorem dL_law_1158 : decode cL_law 1158 = .ok (.aload_n 1, 1) := by decide +kernel
theorem dL_law_1159 : decode cL_law 1159 = .ok (.invokevirtual 157, 3) := by decide +kernel
theorem dL_law_1162 : decode cL_law 1162 = .ok (.aload_n 2, 1) := by decide +kernel
theorem dL_law_1163 : decode cL_law 1163 = .ok (.invokevirtual 160, 3) := by decide +kernel
theorem dL_law_1166 : decode cL_law 1166 = .ok (.if_icmp .eq 41, 3) := by decide +kernel
theorem dL_law_1169 : decode cL_law 1169 = .ok (.iconst 0, 1) := by decide +kernel
theorem dL_law_1170 : decode cL_law 1170 = .ok (.ireturn, 1) := by decide +kernel
theorem dL_law_1171 : decode cL_law 1171 = .ok (.aload_n 1, 1) := by decide +kernel
theorem dL_law_1172 : decode cL_law 1172 = .ok (.aload_n 0, 1) := by decide +kernel
theorem dL_law_1173 : decode cL_law 1173 = .ok (.iload_n 3, 1) := by decide +kernel
theorem dL_law_1174 : decode cL_law 1174 = .ok (.iconst 1, 1) := by decide +kernel
theorem dL_law_1175 : decode cL_law 1175 = .ok (.iadd, 1) := by decide +kernel
theorem dL_law_1176 : decode cL_law 1176 = .ok (.iaload, 1) := by decide +kernel
theorem dL_law_1177 : decode cL_law 1177 = .ok (.invokevirtual 161, 3) := by decide +kernel
theorem dL_law_1180 : decode cL_law 1180 = .ok (.aload_n 2, 1) := by decide +kernel
theorem dL_law_1181 : decode cL_law 1181 = .ok (.aload_n 0, 1) := by decide +kernel
theorem dL_law_1182 : decode cL_law 1182 = .ok (.iload_n 3, 1) := by decide +kernel
theorem dL_law_1183 : decode cL_law 1183 = .ok (.iconst 1, 1) := by decide +kernel
theorem dL_law_1184 : decode cL_law 1184 = .ok (.iadd, 1) := by decide +kernel
theorem dL_law_1185 : decode cL_law 1185 = .ok (.iaload, 1) := by decide +kernel
theorem dL_law_1186 : decode cL_law 1186 = .ok (.invokevirtual 164, 3) := by decide +kernel
theorem dL_law_1189 : decode cL_law 1189 = .ok (.if_icmp .eq 18, 3) := by decide +kernel
theorem dL_law_1192 : decode cL_law 1192 = .ok (.iconst 0, 1) := by decide +kernel
theorem dL_law_1193 : decode cL_law 1193 = .ok (.ireturn, 1) := by decide +kernel
theorem dL_law_1194 : decode cL_law 1194 = .ok (.aload_n 1, 1) := by decide +kernel
theorem dL_law_1195 : decode cL_law 1195 = .ok (.invokevirtual 165, 3) := by decide +kernel
theorem dL_law_1198 : decode cL_law 1198 = .ok (.aload_n 2, 1) := by decide +kernel
theorem dL_law_1199 : decode cL_law 1199 = .ok (.invokevirtual 169, 3) := by decide +kernel
theorem dL_law_1202 : decode cL_law 1202 = .ok (.if_icmp .eq 5, 3) := by decide +kernel
theorem dL_law_1205 : decode cL_law 1205 = .ok (.iconst 0, 1) := by decide +kernel
theorem dL_law_1206 : decode cL_law 1206 = .ok (.ireturn, 1) := by decide +kernel
theorem dL_law_1207 : decode cL_law 1207 = .ok (.iinc 3 6, 3) := by decide +kernel
theorem dL_law_1210 : decode cL_law 1210 = .ok (.goto (-1192), 3) := by decide +kernel
theorem dL_law_1213 : decode cL_law 1213 = .ok (.iconst 1, 1) := by decide +kernel
theorem dL_law_1214 : decode cL_law 1214 = .ok (.ireturn, 1) := by decide +kernel
