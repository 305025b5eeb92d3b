theorem dX10_part_9 : decode cX10_part 9 = .ok (.aload_n 3, 1) := by decide +kernel
theorem dX10_part_10 : decode cX10_part 10 = .ok (.getfield 96, 3) := by decide +kernel
theorem dX10_part_13 : decode cX10_part 13 = .ok (.getfield 100, 3) := by decide +kernel
theorem dX10_part_16 : decode cX10_part 16 = .ok (.invokestatic 133, 3) := by decide +kernel
theorem dX10_part_19 : decode cX10_part 19 = .ok (.ifCond .eq 12, 3) := by decide +kernel
theorem dX10_part_22 : decode cX10_part 22 = .ok (.iload_n 2, 1) := by decide +kernel
theorem dX10_part_23 : decode cX10_part 23 = .ok (.ifCond .lt 8, 3) := by decide +kernel
theorem dX10_part_26 : decode cX10_part 26 = .ok (.iload_n 2, 1) := by decide +kernel
theorem dX10_part_27 : decode cX10_part 27 = .ok (.iconst 1, 1) := by decide +kernel
theorem dX10_part_28 : decode cX10_part 28 = .ok (.if_icmp .le 6, 3) := by decide +kernel
theorem dX10_part_31 : decode cX10_part 31 = .ok (.ldc 212, 2) := by decide +kernel
theorem dX10_part_33 : decode cX10_part 33 = .ok (.ireturn, 1) := by decide +kernel
theorem dX10_part_34 : decode cX10_part 34 = .ok (.iconst 0, 1) := by decide +kernel
theorem dX10_part_35 : decode cX10_part 35 = .ok (.istore 4, 2) := by decide +kernel
theorem dX10_part_37 : decode cX10_part 37 = .ok (.iconst 0, 1) := by decide +kernel
theorem dX10_part_38 : decode cX10_part 38 = .ok (.istore 5, 2) := by decide +kernel
theorem dX10_part_40 : decode cX10_part 40 = .ok (.iconst 0, 1) := by decide +kernel
theorem dX10_part_41 : decode cX10_part 41 = .ok (.istore 6, 2) := by decide +kernel
theorem dX10_part_43 : decode cX10_part 43 = .ok (.iload 6, 2) := by decide +kernel
theorem dX10_part_45 : decode cX10_part 45 = .ok (.bipush 100, 2) := by decide +kernel
theorem dX10_part_47 : decode cX10_part 47 = .ok (.if_icmp .gt 69, 3) := by decide +kernel
theorem dX10_part_50 : decode cX10_part 50 = .ok (.aload_n 0, 1) := by decide +kernel
theorem dX10_part_51 : decode cX10_part 51 = .ok (.getfield 28, 3) := by decide +kernel
theorem dX10_part_54 : decode cX10_part 54 = .ok (.aload_n 3, 1) := by decide +kernel
theorem dX10_part_55 : decode cX10_part 55 = .ok (.invokevirtual 232, 3) := by decide +kernel
theorem dX10_part_58 : decode cX10_part 58 = .ok (.aload_n 0, 1) := by decide +kernel
theorem dX10_part_59 : decode cX10_part 59 = .ok (.getfield 28, 3) := by decide +kernel
theorem dX10_part_62 : decode cX10_part 62 = .ok (.getfield 96, 3) := by decide +kernel
theorem dX10_part_65 : decode cX10_part 65 = .ok (.getfield 181, 3) := by decide +kernel
theorem dX10_part_68 : decode cX10_part 68 = .ok (.iload_n 1, 1) := by decide +kernel
theorem dX10_part_69 : decode cX10_part 69 = .ok (.iload 6, 2) := by decide +kernel
theorem dX10_part_71 : decode cX10_part 71 = .ok (.invokestatic 205, 3) := by decide +kernel
theorem dX10_part_74 : decode cX10_part 74 = .ok (.aload_n 0, 1) := by decide +kernel
theorem dX10_part_75 : decode cX10_part 75 = .ok (.getfield 28, 3) := by decide +kernel
theorem dX10_part_78 : decode cX10_part 78 = .ok (.invokevirtual 236, 3) := by decide +kernel
theorem dX10_part_81 : decode cX10_part 81 = .ok (.aload_n 0, 1) := by decide +kernel
theorem dX10_part_82 : decode cX10_part 82 = .ok (.getfield 28, 3) := by decide +kernel
theorem dX10_part_85 : decode cX10_part 85 = .ok (.invokevirtual 220, 3) := by decide +kernel
theorem dX10_part_88 : decode cX10_part 88 = .ok (.istore 7, 2) := by decide +kernel
theorem dX10_part_90 : decode cX10_part 90 = .ok (.iload 6, 2) := by decide +kernel
theorem dX10_part_92 : decode cX10_part 92 = .ok (.ifCond .eq 10, 3) := by decide +kernel
theorem dX10_part_95 : decode cX10_part 95 = .ok (.iload 7, 2) := by decide +kernel
theorem dX10_part_97 : decode cX10_part 97 = .ok (.iload 5, 2) := by decide +kernel
theorem dX10_part_99 : decode cX10_part 99 = .ok (.if_icmp .le 11, 3) := by decide +kernel
theorem dX10_part_102 : decode cX10_part 102 = .ok (.iload 6, 2) := by decide +kernel
theorem dX10_part_104 : decode cX10_part 104 = .ok (.istore 4, 2) := by decide +kernel
theorem dX10_part_106 : decode cX10_part 106 = .ok (.iload 7, 2) := by decide +kernel
theorem dX10_part_108 : decode cX10_part 108 = .ok (.istore 5, 2) := by decide +kernel
theorem dX10_part_110 : decode cX10_part 110 = .ok (.iinc 6 5, 3) := by decide +kernel
theorem dX10_part_113 : decode cX10_part 113 = .ok (.goto (-70), 3) := by decide +kernel
theorem dX10_part_116 : decode cX10_part 116 = .ok (.iload_n 2, 1) := by decide +kernel
theorem dX10_part_117 : decode cX10_part 117 = .ok (.ifCond .ne 8, 3) := by decide +kernel
theorem dX10_part_120 : decode cX10_part 120 = .ok (.iload 4, 2) := by decide +kernel
theorem dX10_part_122 : decode cX10_part 122 = .ok (.goto 5, 3) := by decide +kernel
theorem dX10_part_125 : decode cX10_part 125 = .ok (.iload 5, 2) := by decide +kernel
theorem dX10_part_127 : decode cX10_part 127 = .ok (.ireturn, 1) := by decide +kernel
theorem dX10_look_0 : decode cX10_look 0 = .ok (.aload_n 0, 1) := by decide +kernel
theorem dX10_look_1 : decode cX10_look 1 = .ok (.getfield 35, 3) := by decide +kernel
theorem dX10_look_4 : decode cX10_look 4 = .ok (.getfield 84, 3) := by decide +kernel
theorem dX10_look_7 : decode cX10_look 7 = .ok (.astore_n 2, 1) := by decide +kernel
theorem dX10_look_8 : decode cX10_look 8 = .ok (.iload_n 1, 1) := by decide +kernel
theorem dX10_look_9 : decode cX10_look 9 = .ok (.aload_n 2, 1) := by decide +kernel
theorem dX10_look_10 : decode cX10_look 10 = .ok (.getfield 96, 3) := by decide +kernel
theorem dX10_look_13 : decode cX10_look 13 = .ok (.getfield 100, 3) := by decide +kernel
theorem dX10_look_16 : decode cX10_look 16 = .ok (.invokestatic 133, 3) := by decide +kernel
theorem dX10_look_19 : decode cX10_look 19 = .ok (.ifCond .ne 5, 3) := by decide +kernel
theorem dX10_look_22 : decode cX10_look 22 = .ok (.iconst (-1), 1) := by decide +kernel
theorem dX10_look_23 : decode cX10_look 23 = .ok (.ireturn, 1) := by decide +kernel
theorem dX10_look_24 : decode cX10_look 24 = .ok (.iconst 0, 1) := by decide +kernel
theorem dX10_look_25 : decode cX10_look 25 = .ok (.istore_n 3, 1) := by decide +kernel
theorem dX10_look_26 : decode cX10_look 26 = .ok (.iload_n 3, 1) := by decide +kernel
theorem dX10_look_27 : decode cX10_look 27 = .ok (.bipush 100, 2) := by decide +kernel
theorem dX10_look_29 : decode cX10_look 29 = .ok (.if_icmp .gt 52, 3) := by decide +kernel
theorem dX10_look_32 : decode cX10_look 32 = .ok (.aload_n 0, 1) := by decide +kernel
theorem dX10_look_33 : decode cX10_look 33 = .ok (.getfield 28, 3) := by decide +kernel
theorem dX10_look_36 : decode cX10_look 36 = .ok (.aload_n 2, 1) := by decide +kernel
theorem dX10_look_37 : decode cX10_look 37 = .ok (.invokevirtual 232, 3) := by decide +kernel
theorem dX10_look_40 : decode cX10_look 40 = .ok (.aload_n 0, 1) := by decide +kernel
theorem dX10_look_41 : decode cX10_look 41 = .ok (.getfield 28, 3) := by decide +kernel
theorem dX10_look_44 : decode cX10_look 44 = .ok (.getfield 96, 3) := by decide +kernel
theorem dX10_look_47 : decode cX10_look 47 = .ok (.getfield 187, 3) := by decide +kernel
theorem dX10_look_50 : decode cX10_look 50 = .ok (.iload_n 1, 1) := by decide +kernel
theorem dX10_look_51 : decode cX10_look 51 = .ok (.iload_n 3, 1) := by decide +kernel
theorem dX10_look_52 : decode cX10_look 52 = .ok (.invokestatic 205, 3) := by decide +kernel
theorem dX10_look_55 : decode cX10_look 55 = .ok (.aload_n 0, 1) := by decide +kernel
theorem dX10_look_56 : decode cX10_look 56 = .ok (.getfield 28, 3) := by decide +kernel
theorem dX10_look_59 : decode cX10_look 59 = .ok (.invokevirtual 236, 3) := by decide +kernel
theorem dX10_look_62 : decode cX10_look 62 = .ok (.aload_n 0, 1) := by decide +kernel
theorem dX10_look_63 : decode cX10_look 63 = .ok (.getfield 28, 3) := by decide +kernel
theorem dX10_look_66 : decode cX10_look 66 = .ok (.iload_n 1, 1) := by decide +kernel
theorem dX10_look_67 : decode cX10_look 67 = .ok (.invokevirtual 239, 3) := by decide +kernel
theorem dX10_look_70 : decode cX10_look 70 = .ok (.ifCond .eq 5, 3) := by decide +kernel
theorem dX10_look_73 : decode cX10_look 73 = .ok (.iload_n 3, 1) := by decide +kernel
theorem dX10_look_74 : decode cX10_look 74 = .ok (.ireturn, 1) := by decide +kernel
theorem dX10_look_75 : decode cX10_look 75 = .ok (.iinc 3 1, 3) := by decide +kernel
theorem dX10_look_78 : decode cX10_look 78 = .ok (.goto (-52), 3) := by decide +kernel
theorem dX10_look_81 : decode cX10_look 81 = .ok (.iconst (-1), 1) := by decide +kernel
theorem dX10_look_82 : decode cX10_look 82 = .ok (.ireturn, 1) := by decide +kernel
theorem dX10_size_0 : decode cX10_size 0 = .ok (.aload_n 0, 1) := by decide +kernel
theorem dX10_size_1 : decode cX10_size 1 = .ok (.iload_n 1, 1) := by decide +kernel
theorem dX10_size_2 : decode cX10_size 2 = .ok (.iload_n 2, 1) := by decide +kernel
theorem dX10_size_3 : decode cX10_size 3 = .ok (.invokevirtual 242, 3) := by decide +kernel
theorem dX10_size_6 : decode cX10_size 6 = .ok (.ifCond .eq 25, 3) := by decide +kernel
theorem dX10_size_9 : decode cX10_size 9 = .ok (.iload_n 3, 1) := by decide +kernel
theorem dX10_size_10 : decode cX10_size 10 = .ok (.iconst 1, 1) := by decide +kernel
theorem dX10_size_11 : decode cX10_size 11 = .ok (.if_icmp .lt 20, 3) := by decide +kernel
theorem dX10_size_14 : decode cX10_size 14 = .ok (.iload_n 3, 1) := by decide +kernel
theorem dX10_size_15 : decode cX10_size 15 = .ok (.bipush 20, 2) := by decide +kernel
theorem dX10_size_17 : decode cX10_size 17 = .ok (.if_icmp .gt 14, 3) := by decide +kernel
theorem dX10_size_20 : decode cX10_size 20 = .ok (.iload 4, 2) := by decide +kernel
theorem dX10_size_22 : decode cX10_size 22 = .ok (.ifCond .lt 9, 3) := by decide +kernel
theorem dX10_size_25 : decode cX10_size 25 = .ok (.iload 4, 2) := by decide +kernel
theorem dX10_size_27 : decode cX10_size 27 = .ok (.iconst 1, 1) := by decide +kernel
theorem dX10_size_28 : decode cX10_size 28 = .ok (.if_icmp .le 6, 3) := by decide +kernel
theorem dX10_size_31 : decode cX10_size 31 = .ok (.ldc 212, 2) := by decide +kernel
theorem dX10_size_33 : decode cX10_size 33 = .ok (.ireturn, 1) := by decide +kernel
theorem dX10_size_34 : decode cX10_size 34 = .ok (.aload_n 0, 1) := by decide +kernel
theorem dX10_size_35 : decode cX10_size 35 = .ok (.iload_n 1, 1) := by decide +kernel
theorem dX10_size_36 : decode cX10_size 36 = .ok (.iload_n 2, 1) := by decide +kernel
theorem dX10_size_37 : decode cX10_size 37 = .ok (.iload_n 3, 1) := by decide +kernel
theorem dX10_size_38 : decode cX10_size 38 = .ok (.invokevirtual 245, 3) := by decide +kernel
theorem dX10_size_41 : decode cX10_size 41 = .ok (.iload 4, 2) := by decide +kernel
theorem dX10_size_43 : decode cX10_size 43 = .ok (.ifCond .ne 20, 3) := by decide +kernel
theorem dX10_size_46 : decode cX10_size 46 = .ok (.aload_n 0, 1) := by decide +kernel
theorem dX10_size_47 : decode cX10_size 47 = .ok (.getfield 28, 3) := by decide +kernel
theorem dX10_size_50 : decode cX10_size 50 = .ok (.getfield 103, 3) := by decide +kernel
theorem dX10_size_53 : decode cX10_size 53 = .ok (.getfield 160, 3) := by decide +kernel
theorem dX10_size_56 : decode cX10_size 56 = .ok (.iconst 0, 1) := by decide +kernel
theorem dX10_size_57 : decode cX10_size 57 = .ok (.invokestatic 140, 3) := by decide +kernel
theorem dX10_size_60 : decode cX10_size 60 = .ok (.goto 11, 3) := by decide +kernel
theorem dX10_size_63 : decode cX10_size 63 = .ok (.aload_n 0, 1) := by decide +kernel
theorem dX10_size_64 : decode cX10_size 64 = .ok (.getfield 28, 3) := by decide +kernel
theorem dX10_size_67 : decode cX10_size 67 = .ok (.iconst 0, 1) := by decide +kernel
theorem dX10_size_68 : decode cX10_size 68 = .ok (.invokevirtual 213, 3) := by decide +kernel
theorem dX10_size_71 : decode cX10_size 71 = .ok (.ireturn, 1) := by decide +kernel
theorem dX10_many_0 : decode cX10_many 0 = .ok (.aload_n 0, 1) := by decide +kernel
theorem dX10_many_1 : decode cX10_many 1 = .ok (.iload_n 1, 1) := by decide +kernel
theorem dX10_many_2 : decode cX10_many 2 = .ok (.iload_n 2, 1) := by decide +kernel
theorem dX10_many_3 : decode cX10_many 3 = .ok (.invokevirtual 242, 3) := by decide +kernel
theorem dX10_many_6 : decode cX10_many 6 = .ok (.ifCond .ne 5, 3) := by decide +kernel
theorem dX10_many_9 : decode cX10_many 9 = .ok (.iconst (-1), 1) := by decide +kernel
theorem dX10_many_10 : decode cX10_many 10 = .ok (.ireturn, 1) := by decide +kernel
theorem dX10_many_11 : decode cX10_many 11 = .ok (.iconst 0, 1) := by decide +kernel
theorem dX10_many_12 : decode cX10_many 12 = .ok (.istore_n 3, 1) := by decide +kernel
theorem dX10_many_13 : decode cX10_many 13 = .ok (.iconst 0, 1) := by decide +kernel
theorem dX10_many_14 : decode cX10_many 14 = .ok (.istore 4, 2) := by decide +kernel
theorem dX10_many_16 : decode cX10_many 16 = .ok (.iconst 1, 1) := by decide +kernel
theorem dX10_many_17 : decode cX10_many 17 = .ok (.istore 5, 2) := by decide +kernel
theorem dX10_many_19 : decode cX10_many 19 = .ok (.iload 5, 2) := by decide +kernel
theorem dX10_many_21 : decode cX10_many 21 = .ok (.bipush 20, 2) := by decide +kernel
theorem dX10_many_23 : decode cX10_many 23 = .ok (.if_icmp .gt 47, 3) := by decide +kernel
theorem dX10_many_26 : decode cX10_many 26 = .ok (.aload_n 0, 1) := by decide +kernel
theorem dX10_many_27 : decode cX10_many 27 = .ok (.iload_n 1, 1) := by decide +kernel
theorem dX10_many_28 : decode cX10_many 28 = .ok (.iload_n 2, 1) := by decide +kernel
theorem dX10_many_29 : decode cX10_many 29 = .ok (.iload 5, 2) := by decide +kernel
theorem dX10_many_31 : decode cX10_many 31 = .ok (.invokevirtual 245, 3) := by decide +kernel
theorem dX10_many_34 : decode cX10_many 34 = .ok (.aload_n 0, 1) := by decide +kernel
theorem dX10_many_35 : decode cX10_many 35 = .ok (.getfield 28, 3) := by decide +kernel
theorem dX10_many_38 : decode cX10_many 38 = .ok (.iconst 0, 1) := by decide +kernel
theorem dX10_many_39 : decode cX10_many 39 = .ok (.invokevirtual 213, 3) := by decide +kernel
theorem dX10_many_42 : decode cX10_many 42 = .ok (.istore 6, 2) := by decide +kernel
theorem dX10_many_44 : decode cX10_many 44 = .ok (.iload 5, 2) := by decide +kernel
theorem dX10_many_46 : decode cX10_many 46 = .ok (.iconst 1, 1) := by decide +kernel
theorem dX10_many_47 : decode cX10_many 47 = .ok (.if_icmp .eq 10, 3) := by decide +kernel
theorem dX10_many_50 : decode cX10_many 50 = .ok (.iload 6, 2) := by decide +kernel
theorem dX10_many_52 : decode cX10_many 52 = .ok (.iload 4, 2) := by decide +kernel
theorem dX10_many_54 : decode cX10_many 54 = .ok (.if_icmp .le 10, 3) := by decide +kernel
theorem dX10_many_57 : decode cX10_many 57 = .ok (.iload 5, 2) := by decide +kernel
theorem dX10_many_59 : decode cX10_many 59 = .ok (.istore_n 3, 1) := by decide +kernel
theorem dX10_many_60 : decode cX10_many 60 = .ok (.iload 6, 2) := by decide +kernel
theorem dX10_many_62 : decode cX10_many 62 = .ok (.istore 4, 2) := by decide +kernel
theorem dX10_many_64 : decode cX10_many 64 = .ok (.iinc 5 1, 3) := by decide +kernel
theorem dX10_many_67 : decode cX10_many 67 = .ok (.goto (-48), 3) := by decide +kernel
theorem dX10_many_70 : decode cX10_many 70 = .ok (.iload_n 3, 1) := by decide +kernel
theorem dX10_many_71 : decode cX10_many 71 = .ok (.ireturn, 1) := by decide +kernel
theorem dX10_canCrowd_0 : decode cX10_canCrowd 0 = .ok (.iload_n 1, 1) := by decide +kernel
theorem dX10_canCrowd_1 : decode cX10_canCrowd 1 = .ok (.aload_n 0, 1) := by decide +kernel
theorem dX10_canCrowd_2 : decode cX10_canCrowd 2 = .ok (.getfield 35, 3) := by decide +kernel
theorem dX10_canCrowd_5 : decode cX10_canCrowd 5 = .ok (.getfield 84, 3) := by decide +kernel
theorem dX10_canCrowd_8 : decode cX10_canCrowd 8 = .ok (.getfield 87, 3) := by decide +kernel
theorem dX10_canCrowd_11 : decode cX10_canCrowd 11 = .ok (.getfield 91, 3) := by decide +kernel
theorem dX10_canCrowd_14 : decode cX10_canCrowd 14 = .ok (.invokestatic 133, 3) := by decide +kernel
theorem dX10_canCrowd_17 : decode cX10_canCrowd 17 = .ok (.ifCond .eq 27, 3) := by decide +kernel
theorem dX10_canCrowd_20 : decode cX10_canCrowd 20 = .ok (.iload_n 2, 1) := by decide +kernel
theorem dX10_canCrowd_21 : decode cX10_canCrowd 21 = .ok (.aload_n 0, 1) := by decide +kernel
theorem dX10_canCrowd_22 : decode cX10_canCrowd 22 = .ok (.getfield 35, 3) := by decide +kernel
theorem dX10_canCrowd_25 : decode cX10_canCrowd 25 = .ok (.getfield 84, 3) := by decide +kernel
theorem dX10_canCrowd_28 : decode cX10_canCrowd 28 = .ok (.getfield 96, 3) := by decide +kernel
theorem dX10_canCrowd_31 : decode cX10_canCrowd 31 = .ok (.getfield 100, 3) := by decide +kernel
theorem dX10_canCrowd_34 : decode cX10_canCrowd 34 = .ok (.invokestatic 133, 3) := by decide +kernel
theorem dX10_canCrowd_37 : decode cX10_canCrowd 37 = .ok (.ifCond .eq 7, 3) := by decide +kernel
theorem dX10_canCrowd_40 : decode cX10_canCrowd 40 = .ok (.iconst 1, 1) := by decide +kernel
theorem dX10_canCrowd_41 : decode cX10_canCrowd 41 = .ok (.goto 4, 3) := by decide +kernel
theorem dX10_canCrowd_44 : decode cX10_canCrowd 44 = .ok (.iconst 0, 1) := by decide +kernel
theorem dX10_canCrowd_45 : decode cX10_canCrowd 45 = .ok (.ireturn, 1) := by decide +kernel
theorem dX10_crowdTrial_0 : decode cX10_crowdTrial 0 = .ok (.aload_n 0, 1) := by decide +kernel
theorem dX10_crowdTrial_1 : decode cX10_crowdTrial 1 = .ok (.getfield 28, 3) := by decide +kernel
theorem dX10_crowdTrial_4 : decode cX10_crowdTrial 4 = .ok (.aload_n 0, 1) := by decide +kernel
theorem dX10_crowdTrial_5 : decode cX10_crowdTrial 5 = .ok (.getfield 35, 3) := by decide +kernel
theorem dX10_crowdTrial_8 : decode cX10_crowdTrial 8 = .ok (.getfield 84, 3) := by decide +kernel
theorem dX10_crowdTrial_11 : decode cX10_crowdTrial 11 = .ok (.invokevirtual 232, 3) := by decide +kernel
theorem dX10_crowdTrial_14 : decode cX10_crowdTrial 14 = .ok (.aload_n 0, 1) := by decide +kernel
theorem dX10_crowdTrial_15 : decode cX10_crowdTrial 15 = .ok (.getfield 28, 3) := by decide +kernel
theorem dX10_crowdTrial_18 : decode cX10_crowdTrial 18 = .ok (.getfield 103, 3) := by decide +kernel
theorem dX10_crowdTrial_21 : decode cX10_crowdTrial 21 = .ok (.iload_n 3, 1) := by decide +kernel
theorem dX10_crowdTrial_22 : decode cX10_crowdTrial 22 = .ok (.iload_n 1, 1) := by decide +kernel
theorem dX10_crowdTrial_23 : decode cX10_crowdTrial 23 = .ok (.iload_n 2, 1) := by decide +kernel
theorem dX10_crowdTrial_24 : decode cX10_crowdTrial 24 = .ok (.invokevirtual 249, 3) := by decide +kernel
theorem dX10_crowdTrial_27 : decode cX10_crowdTrial 27 = .ok (.aload_n 0, 1) := by decide +kernel
theorem dX10_crowdTrial_28 : decode cX10_crowdTrial 28 = .ok (.getfield 28, 3) := by decide +kernel
theorem dX10_crowdTrial_31 : decode cX10_crowdTrial 31 = .ok (.invokevirtual 236, 3) := by decide +kernel
theorem dX10_crowdTrial_34 : decode cX10_crowdTrial 34 = .ok (.return_, 1) := by decide +kernel
theorem dX10_under_0 : decode cX10_under 0 = .ok (.aload_n 0, 1) := by decide +kernel
theorem dX10_under_1 : decode cX10_under 1 = .ok (.getfield 35, 3) := by decide +kernel
theorem dX10_under_4 : decode cX10_under 4 = .ok (.getfield 84, 3) := by decide +kernel
theorem dX10_under_7 : decode cX10_under 7 = .ok (.astore 4, 2) := by decide +kernel
theorem dX10_under_9 : decode cX10_under 9 = .ok (.iload_n 1, 1) := by decide +kernel
theorem dX10_under_10 : decode cX10_under 10 = .ok (.aload 4, 2) := by decide +kernel
theorem dX10_under_12 : decode cX10_under 12 = .ok (.getfield 96, 3) := by decide +kernel
theorem dX10_under_15 : decode cX10_under 15 = .ok (.getfield 100, 3) := by decide +kernel
theorem dX10_under_18 : decode cX10_under 18 = .ok (.invokestatic 133, 3) := by decide +kernel
theorem dX10_under_21 : decode cX10_under 21 = .ok (.ifCond .eq 21, 3) := by decide +kernel
theorem dX10_under_24 : decode cX10_under 24 = .ok (.iload_n 2, 1) := by decide +kernel
theorem dX10_under_25 : decode cX10_under 25 = .ok (.ifCond .lt 17, 3) := by decide +kernel
theorem dX10_under_28 : decode cX10_under 28 = .ok (.iload_n 2, 1) := by decide +kernel
theorem dX10_under_29 : decode cX10_under 29 = .ok (.iconst 3, 1) := by decide +kernel
theorem dX10_under_30 : decode cX10_under 30 = .ok (.if_icmp .gt 12, 3) := by decide +kernel
theorem dX10_under_33 : decode cX10_under 33 = .ok (.iload_n 3, 1) := by decide +kernel
theorem dX10_under_34 : decode cX10_under 34 = .ok (.ifCond .lt 8, 3) := by decide +kernel
theorem dX10_under_37 : decode cX10_under 37 = .ok (.iload_n 3, 1) := by decide +kernel
theorem dX10_under_38 : decode cX10_under 38 = .ok (.iconst 1, 1) := by decide +kernel
theorem dX10_under_39 : decode cX10_under 39 = .ok (.if_icmp .le 6, 3) := by decide +kernel
theorem dX10_under_42 : decode cX10_under 42 = .ok (.ldc 212, 2) := by decide +kernel
theorem dX10_under_44 : decode cX10_under 44 = .ok (.ireturn, 1) := by decide +kernel
theorem dX10_under_45 : decode cX10_under 45 = .ok (.aload_n 0, 1) := by decide +kernel
theorem dX10_under_46 : decode cX10_under 46 = .ok (.getfield 28, 3) := by decide +kernel
theorem dX10_under_49 : decode cX10_under 49 = .ok (.aload 4, 2) := by decide +kernel
theorem dX10_under_51 : decode cX10_under 51 = .ok (.invokevirtual 232, 3) := by decide +kernel
theorem dX10_under_54 : decode cX10_under 54 = .ok (.aload_n 0, 1) := by decide +kernel
theorem dX10_under_55 : decode cX10_under 55 = .ok (.getfield 28, 3) := by decide +kernel
theorem dX10_under_58 : decode cX10_under 58 = .ok (.getfield 96, 3) := by decide +kernel
theorem dX10_under_61 : decode cX10_under 61 = .ok (.getfield 190, 3) := by decide +kernel
theorem dX10_under_64 : decode cX10_under 64 = .ok (.iload_n 1, 1) := by decide +kernel
theorem dX10_under_65 : decode cX10_under 65 = .ok (.iload_n 2, 1) := by decide +kernel
theorem dX10_under_66 : decode cX10_under 66 = .ok (.invokestatic 205, 3) := by decide +kernel
theorem dX10_under_69 : decode cX10_under 69 = .ok (.aload_n 0, 1) := by decide +kernel
theorem dX10_under_70 : decode cX10_under 70 = .ok (.getfield 28, 3) := by decide +kernel
theorem dX10_under_73 : decode cX10_under 73 = .ok (.invokevirtual 236, 3) := by decide +kernel
theorem dX10_under_76 : decode cX10_under 76 = .ok (.iload_n 3, 1) := by decide +kernel
theorem dX10_under_77 : decode cX10_under 77 = .ok (.ifCond .ne 13, 3) := by decide +kernel
theorem dX10_under_80 : decode cX10_under 80 = .ok (.aload_n 0, 1) := by decide +kernel
theorem dX10_under_81 : decode cX10_under 81 = .ok (.getfield 28, 3) := by decide +kernel
theorem dX10_under_84 : decode cX10_under 84 = .ok (.invokevirtual 220, 3) := by decide +kernel
theorem dX10_under_87 : decode cX10_under 87 = .ok (.goto 11, 3) := by decide +kernel
theorem dX10_under_90 : decode cX10_under 90 = .ok (.aload_n 0, 1) := by decide +kernel
theorem dX10_under_91 : decode cX10_under 91 = .ok (.getfield 28, 3) := by decide +kernel
theorem dX10_under_94 : decode cX10_under 94 = .ok (.iload_n 1, 1) := by decide +kernel
theorem dX10_under_95 : decode cX10_under 95 = .ok (.invokevirtual 252, 3) := by decide +kernel
theorem dX10_under_98 : decode cX10_under 98 = .ok (.ireturn, 1) := by decide +kernel
theorem dX10_ends_0 : decode cX10_ends 0 = .ok (.iload_n 1, 1) := by decide +kernel
theorem dX10_ends_1 : decode cX10_ends 1 = .ok (.tableswitch 153 0 4 #[35, 48, 70, 83, 105], 35) := by decide +kernel
theorem dX10_ends_36 : decode cX10_ends 36 = .ok (.aload_n 0, 1) := by decide +kernel
theorem dX10_ends_37 : decode cX10_ends 37 = .ok (.iconst 0, 1) := by decide +kernel
theorem dX10_ends_38 : decode cX10_ends 38 = .ok (.invokevirtual 255, 3) := by decide +kernel
theorem dX10_ends_41 : decode cX10_ends 41 = .ok (.aload_n 0, 1) := by decide +kernel
theorem dX10_ends_42 : decode cX10_ends 42 = .ok (.getfield 28, 3) := by decide +kernel
theorem dX10_ends_45 : decode cX10_ends 45 = .ok (.invokevirtual 258, 3) := by decide +kernel
theorem dX10_ends_48 : decode cX10_ends 48 = .ok (.ireturn, 1) := by decide +kernel
theorem dX10_ends_49 : decode cX10_ends 49 = .ok (.aload_n 0, 1) := by decide +kernel
theorem dX10_ends_50 : decode cX10_ends 50 = .ok (.aload_n 0, 1) := by decide +kernel
theorem dX10_ends_51 : decode cX10_ends 51 = .ok (.getfield 35, 3) := by decide +kernel
theorem dX10_ends_54 : decode cX10_ends 54 = .ok (.getfield 84, 3) := by decide +kernel
theorem dX10_ends_57 : decode cX10_ends 57 = .ok (.getfield 120, 3) := by decide +kernel
theorem dX10_ends_60 : decode cX10_ends 60 = .ok (.invokevirtual 255, 3) := by decide +kernel
theorem dX10_ends_63 : decode cX10_ends 63 = .ok (.aload_n 0, 1) := by decide +kernel
theorem dX10_ends_64 : decode cX10_ends 64 = .ok (.getfield 28, 3) := by decide +kernel
theorem dX10_ends_67 : decode cX10_ends 67 = .ok (.invokevirtual 258, 3) := by decide +kernel
theorem dX10_ends_70 : decode cX10_ends 70 = .ok (.ireturn, 1) := by decide +kernel
theorem dX10_ends_71 : decode cX10_ends 71 = .ok (.aload_n 0, 1) := by decide +kernel
theorem dX10_ends_72 : decode cX10_ends 72 = .ok (.iconst 0, 1) := by decide +kernel
theorem dX10_ends_73 : decode cX10_ends 73 = .ok (.invokevirtual 255, 3) := by decide +kernel
theorem dX10_ends_76 : decode cX10_ends 76 = .ok (.aload_n 0, 1) := by decide +kernel
theorem dX10_ends_77 : decode cX10_ends 77 = .ok (.getfield 28, 3) := by decide +kernel
theorem dX10_ends_80 : decode cX10_ends 80 = .ok (.invokevirtual 220, 3) := by decide +kernel
theorem dX10_ends_83 : decode cX10_ends 83 = .ok (.ireturn, 1) := by decide +kernel
theorem dX10_ends_84 : decode cX10_ends 84 = .ok (.aload_n 0, 1) := by decide +kernel
theorem dX10_ends_85 : decode cX10_ends 85 = .ok (.aload_n 0, 1) := by decide +kernel
theorem dX10_ends_86 : decode cX10_ends 86 = .ok (.getfield 35, 3) := by decide +kernel
theorem dX10_ends_89 : decode cX10_ends 89 = .ok (.getfield 84, 3) := by decide +kernel
theorem dX10_ends_92 : decode cX10_ends 92 = .ok (.getfield 120, 3) := by decide +kernel
theorem dX10_ends_95 : decode cX10_ends 95 = .ok (.invokevirtual 255, 3) := by decide +kernel
theorem dX10_ends_98 : decode cX10_ends 98 = .ok (.aload_n 0, 1) := by decide +kernel
theorem dX10_ends_99 : decode cX10_ends 99 = .ok (.getfield 28, 3) := by decide +kernel
theorem dX10_ends_102 : decode cX10_ends 102 = .ok (.invokevirtual 220, 3) := by decide +kernel
theorem dX10_ends_105 : decode cX10_ends 105 = .ok (.ireturn, 1) := by decide +kernel
theorem dX10_ends_106 : decode cX10_ends 106 = .ok (.aload_n 0, 1) := by decide +kernel
theorem dX10_ends_107 : decode cX10_ends 107 = .ok (.iconst 0, 1) := by decide +kernel
theorem dX10_ends_108 : decode cX10_ends 108 = .ok (.invokevirtual 255, 3) := by decide +kernel
theorem dX10_ends_111 : decode cX10_ends 111 = .ok (.aload_n 0, 1) := by decide +kernel
theorem dX10_ends_112 : decode cX10_ends 112 = .ok (.getfield 28, 3) := by decide +kernel
theorem dX10_ends_115 : decode cX10_ends 115 = .ok (.getfield 103, 3) := by decide +kernel
theorem dX10_ends_118 : decode cX10_ends 118 = .ok (.invokevirtual 261, 3) := by decide +kernel
theorem dX10_ends_121 : decode cX10_ends 121 = .ok (.aload_n 0, 1) := by decide +kernel
theorem dX10_ends_122 : decode cX10_ends 122 = .ok (.aload_n 0, 1) := by decide +kernel
theorem dX10_ends_123 : decode cX10_ends 123 = .ok (.getfield 35, 3) := by decide +kernel
theorem dX10_ends_126 : decode cX10_ends 126 = .ok (.getfield 84, 3) := by decide +kernel
theorem dX10_ends_129 : decode cX10_ends 129 = .ok (.getfield 120, 3) := by decide +kernel
theorem dX10_ends_132 : decode cX10_ends 132 = .ok (.invokevirtual 255, 3) := by decide +kernel
theorem dX10_ends_135 : decode cX10_ends 135 = .ok (.aload_n 0, 1) := by decide +kernel
theorem dX10_ends_136 : decode cX10_ends 136 = .ok (.getfield 28, 3) := by decide +kernel
theorem dX10_ends_139 : decode cX10_ends 139 = .ok (.getfield 103, 3) := by decide +kernel
theorem dX10_ends_142 : decode cX10_ends 142 = .ok (.invokevirtual 264, 3) := by decide +kernel
theorem dX10_ends_145 : decode cX10_ends 145 = .ok (.ifCond .eq 7, 3) := by decide +kernel
theorem dX10_ends_148 : decode cX10_ends 148 = .ok (.iconst 1, 1) := by decide +kernel
theorem dX10_ends_149 : decode cX10_ends 149 = .ok (.goto 4, 3) := by decide +kernel
theorem dX10_ends_152 : decode cX10_ends 152 = .ok (.iconst 0, 1) := by decide +kernel
theorem dX10_ends_153 : decode cX10_ends 153 = .ok (.ireturn, 1) := by decide +kernel
theorem dX10_ends_154 : decode cX10_ends 154 = .ok (.ldc 212, 2) := by decide +kernel
theorem dX10_ends_156 : decode cX10_ends 156 = .ok (.ireturn, 1) := by decide +kernel
theorem dX10_settleTrialFrom_0 : decode cX10_settleTrialFrom 0 = .ok (.aload_n 0, 1) := by decide +kernel
theorem dX10_settleTrialFrom_1 : decode cX10_settleTrialFrom 1 = .ok (.getfield 28, 3) := by decide +kernel
theorem dX10_settleTrialFrom_4 : decode cX10_settleTrialFrom 4 = .ok (.aload_n 0, 1) := by decide +kernel
theorem dX10_settleTrialFrom_5 : decode cX10_settleTrialFrom 5 = .ok (.getfield 35, 3) := by decide +kernel
theorem dX10_settleTrialFrom_8 : decode cX10_settleTrialFrom 8 = .ok (.getfield 84, 3) := by decide +kernel
theorem dX10_settleTrialFrom_11 : decode cX10_settleTrialFrom 11 = .ok (.invokevirtual 232, 3) := by decide +kernel
theorem dX10_settleTrialFrom_14 : decode cX10_settleTrialFrom 14 = .ok (.aload_n 0, 1) := by decide +kernel
theorem dX10_settleTrialFrom_15 : decode cX10_settleTrialFrom 15 = .ok (.getfield 28, 3) := by decide +kernel
theorem dX10_settleTrialFrom_18 : decode cX10_settleTrialFrom 18 = .ok (.getfield 103, 3) := by decide +kernel
theorem dX10_settleTrialFrom_21 : decode cX10_settleTrialFrom 21 = .ok (.iload_n 1, 1) := by decide +kernel
theorem dX10_settleTrialFrom_22 : decode cX10_settleTrialFrom 22 = .ok (.invokevirtual 267, 3) := by decide +kernel
theorem dX10_settleTrialFrom_25 : decode cX10_settleTrialFrom 25 = .ok (.aload_n 0, 1) := by decide +kernel
theorem dX10_settleTrialFrom_26 : decode cX10_settleTrialFrom 26 = .ok (.getfield 28, 3) := by decide +kernel
theorem dX10_settleTrialFrom_29 : decode cX10_settleTrialFrom 29 = .ok (.invokevirtual 236, 3) := by decide +kernel
theorem dX10_settleTrialFrom_32 : decode cX10_settleTrialFrom 32 = .ok (.return_, 1) := by decide +kernel
theorem dX10_alike_0 : decode cX10_alike 0 = .ok (.iload_n 1, 1) := by decide +kernel
theorem dX10_alike_1 : decode cX10_alike 1 = .ok (.ifCond .lt 8, 3) := by decide +kernel
theorem dX10_alike_4 : decode cX10_alike 4 = .ok (.iload_n 1, 1) := by decide +kernel
theorem dX10_alike_5 : decode cX10_alike 5 = .ok (.iconst 1, 1) := by decide +kernel
theorem dX10_alike_6 : decode cX10_alike 6 = .ok (.if_icmp .le 6, 3) := by decide +kernel
theorem dX10_alike_9 : decode cX10_alike 9 = .ok (.ldc 212, 2) := by decide +kernel
theorem dX10_alike_11 : decode cX10_alike 11 = .ok (.ireturn, 1) := by decide +kernel
theorem dX10_alike_12 : decode cX10_alike 12 = .ok (.iconst 0, 1) := by decide +kernel
theorem dX10_alike_13 : decode cX10_alike 13 = .ok (.istore_n 2, 1) := by decide +kernel
theorem dX10_alike_14 : decode cX10_alike 14 = .ok (.iconst 0, 1) := by decide +kernel
theorem dX10_alike_15 : decode cX10_alike 15 = .ok (.istore_n 3, 1) := by decide +kernel
theorem dX10_alike_16 : decode cX10_alike 16 = .ok (.aload_n 0, 1) := by decide +kernel
theorem dX10_alike_17 : decode cX10_alike 17 = .ok (.getfield 28, 3) := by decide +kernel
theorem dX10_alike_20 : decode cX10_alike 20 = .ok (.aload_n 0, 1) := by decide +kernel
theorem dX10_alike_21 : decode cX10_alike 21 = .ok (.getfield 35, 3) := by decide +kernel
theorem dX10_alike_24 : decode cX10_alike 24 = .ok (.getfield 84, 3) := by decide +kernel
theorem dX10_alike_27 : decode cX10_alike 27 = .ok (.invokevirtual 232, 3) := by decide +kernel
theorem dX10_alike_30 : decode cX10_alike 30 = .ok (.iconst 0, 1) := by decide +kernel
theorem dX10_alike_31 : decode cX10_alike 31 = .ok (.istore 4, 2) := by decide +kernel
theorem dX10_alike_33 : decode cX10_alike 33 = .ok (.iload 4, 2) := by decide +kernel
theorem dX10_alike_35 : decode cX10_alike 35 = .ok (.aload_n 0, 1) := by decide +kernel
theorem dX10_alike_36 : decode cX10_alike 36 = .ok (.getfield 28, 3) := by decide +kernel
theorem dX10_alike_39 : decode cX10_alike 39 = .ok (.getfield 120, 3) := by decide +kernel
theorem dX10_alike_42 : decode cX10_alike 42 = .ok (.if_icmp .gt 47, 3) := by decide +kernel
theorem dX10_alike_45 : decode cX10_alike 45 = .ok (.aload_n 0, 1) := by decide +kernel
theorem dX10_alike_46 : decode cX10_alike 46 = .ok (.getfield 28, 3) := by decide +kernel
theorem dX10_alike_49 : decode cX10_alike 49 = .ok (.getfield 103, 3) := by decide +kernel
theorem dX10_alike_52 : decode cX10_alike 52 = .ok (.iload 4, 2) := by decide +kernel
theorem dX10_alike_54 : decode cX10_alike 54 = .ok (.invokevirtual 267, 3) := by decide +kernel
theorem dX10_alike_57 : decode cX10_alike 57 = .ok (.aload_n 0, 1) := by decide +kernel
theorem dX10_alike_58 : decode cX10_alike 58 = .ok (.getfield 28, 3) := by decide +kernel
theorem dX10_alike_61 : decode cX10_alike 61 = .ok (.invokevirtual 220, 3) := by decide +kernel
theorem dX10_alike_64 : decode cX10_alike 64 = .ok (.istore 5, 2) := by decide +kernel
theorem dX10_alike_66 : decode cX10_alike 66 = .ok (.iload 4, 2) := by decide +kernel
theorem dX10_alike_68 : decode cX10_alike 68 = .ok (.ifCond .eq 9, 3) := by decide +kernel
theorem dX10_alike_71 : decode cX10_alike 71 = .ok (.iload 5, 2) := by decide +kernel
theorem dX10_alike_73 : decode cX10_alike 73 = .ok (.iload_n 3, 1) := by decide +kernel
theorem dX10_alike_74 : decode cX10_alike 74 = .ok (.if_icmp .le 9, 3) := by decide +kernel
theorem dX10_alike_77 : decode cX10_alike 77 = .ok (.iload 4, 2) := by decide +kernel
theorem dX10_alike_79 : decode cX10_alike 79 = .ok (.istore_n 2, 1) := by decide +kernel
theorem dX10_alike_80 : decode cX10_alike 80 = .ok (.iload 5, 2) := by decide +kernel
theorem dX10_alike_82 : decode cX10_alike 82 = .ok (.istore_n 3, 1) := by decide +kernel
theorem dX10_alike_83 : decode cX10_alike 83 = .ok (.iinc 4 1, 3) := by decide +kernel
theorem dX10_alike_86 : decode cX10_alike 86 = .ok (.goto (-53), 3) := by decide +kernel
theorem dX10_alike_89 : decode cX10_alike 89 = .ok (.iload_n 1, 1) := by decide +kernel
theorem dX10_alike_90 : decode cX10_alike 90 = .ok (.ifCond .ne 7, 3) := by decide +kernel
theorem dX10_alike_93 : decode cX10_alike 93 = .ok (.iload_n 2, 1) := by decide +kernel
theorem dX10_alike_94 : decode cX10_alike 94 = .ok (.goto 4, 3) := by decide +kernel
theorem dX10_alike_97 : decode cX10_alike 97 = .ok (.iload_n 3, 1) := by decide +kernel
theorem dX10_alike_98 : decode cX10_alike 98 = .ok (.ireturn, 1) := by decide +kernel
theorem dX10_pair_0 : decode cX10_pair 0 = .ok (.aload_n 0, 1) := by decide +kernel
theorem dX10_pair_1 : decode cX10_pair 1 = .ok (.getfield 35, 3) := by decide +kernel
theorem dX10_pair_4 : decode cX10_pair 4 = .ok (.getfield 84, 3) := by decide +kernel
theorem dX10_pair_7 : decode cX10_pair 7 = .ok (.getfield 103, 3) := by decide +kernel
theorem dX10_pair_10 : decode cX10_pair 10 = .ok (.astore_n 3, 1) := by decide +kernel
theorem dX10_pair_11 : decode cX10_pair 11 = .ok (.iload_n 1, 1) := by decide +kernel
theorem dX10_pair_12 : decode cX10_pair 12 = .ok (.aload_n 3, 1) := by decide +kernel
theorem dX10_pair_13 : decode cX10_pair 13 = .ok (.getfield 110, 3) := by decide +kernel
theorem dX10_pair_16 : decode cX10_pair 16 = .ok (.invokestatic 133, 3) := by decide +kernel
theorem dX10_pair_19 : decode cX10_pair 19 = .ok (.ifCond .ne 5, 3) := by decide +kernel
theorem dX10_pair_22 : decode cX10_pair 22 = .ok (.iconst (-1), 1) := by decide +kernel
theorem dX10_pair_23 : decode cX10_pair 23 = .ok (.ireturn, 1) := by decide +kernel
theorem dX10_pair_24 : decode cX10_pair 24 = .ok (.aload_n 3, 1) := by decide +kernel
theorem dX10_pair_25 : decode cX10_pair 25 = .ok (.getfield 270, 3) := by decide +kernel
theorem dX10_pair_28 : decode cX10_pair 28 = .ok (.iload_n 1, 1) := by decide +kernel
theorem dX10_pair_29 : decode cX10_pair 29 = .ok (.invokestatic 140, 3) := by decide +kernel
theorem dX10_pair_32 : decode cX10_pair 32 = .ok (.istore 4, 2) := by decide +kernel
theorem dX10_pair_34 : decode cX10_pair 34 = .ok (.aload_n 3, 1) := by decide +kernel
theorem dX10_pair_35 : decode cX10_pair 35 = .ok (.getfield 273, 3) := by decide +kernel
theorem dX10_pair_38 : decode cX10_pair 38 = .ok (.iload_n 1, 1) := by decide +kernel
theorem dX10_pair_39 : decode cX10_pair 39 = .ok (.invokestatic 140, 3) := by decide +kernel
theorem dX10_pair_42 : decode cX10_pair 42 = .ok (.istore 5, 2) := by decide +kernel
theorem dX10_pair_44 : decode cX10_pair 44 = .ok (.iload_n 2, 1) := by decide +kernel
theorem dX10_pair_45 : decode cX10_pair 45 = .ok (.tableswitch 103 0 3 #[31, 34, 37, 63], 31) := by decide +kernel
theorem dX10_pair_76 : decode cX10_pair 76 = .ok (.iload 4, 2) := by decide +kernel
theorem dX10_pair_78 : decode cX10_pair 78 = .ok (.ireturn, 1) := by decide +kernel
theorem dX10_pair_79 : decode cX10_pair 79 = .ok (.iload 5, 2) := by decide +kernel
theorem dX10_pair_81 : decode cX10_pair 81 = .ok (.ireturn, 1) := by decide +kernel
theorem dX10_pair_82 : decode cX10_pair 82 = .ok (.aload_n 0, 1) := by decide +kernel
theorem dX10_pair_83 : decode cX10_pair 83 = .ok (.getfield 19, 3) := by decide +kernel
theorem dX10_pair_86 : decode cX10_pair 86 = .ok (.getfield 175, 3) := by decide +kernel
theorem dX10_pair_89 : decode cX10_pair 89 = .ok (.iload 4, 2) := by decide +kernel
theorem dX10_pair_91 : decode cX10_pair 91 = .ok (.invokestatic 140, 3) := by decide +kernel
theorem dX10_pair_94 : decode cX10_pair 94 = .ok (.aload_n 0, 1) := by decide +kernel
theorem dX10_pair_95 : decode cX10_pair 95 = .ok (.getfield 19, 3) := by decide +kernel
theorem dX10_pair_98 : decode cX10_pair 98 = .ok (.getfield 175, 3) := by decide +kernel
theorem dX10_pair_101 : decode cX10_pair 101 = .ok (.iload 5, 2) := by decide +kernel
theorem dX10_pair_103 : decode cX10_pair 103 = .ok (.invokestatic 140, 3) := by decide +kernel
theorem dX10_pair_106 : decode cX10_pair 106 = .ok (.iadd, 1) := by decide +kernel
theorem dX10_pair_107 : decode cX10_pair 107 = .ok (.ireturn, 1) := by decide +kernel
theorem dX10_pair_108 : decode cX10_pair 108 = .ok (.aload_n 3, 1) := by decide +kernel
theorem dX10_pair_109 : decode cX10_pair 109 = .ok (.getfield 157, 3) := by decide +kernel
theorem dX10_pair_112 : decode cX10_pair 112 = .ok (.iload 4, 2) := by decide +kernel
theorem dX10_pair_114 : decode cX10_pair 114 = .ok (.invokestatic 140, 3) := by decide +kernel
theorem dX10_pair_117 : decode cX10_pair 117 = .ok (.iconst (-1), 1) := by decide +kernel
theorem dX10_pair_118 : decode cX10_pair 118 = .ok (.if_icmp .eq 28, 3) := by decide +kernel
theorem dX10_pair_121 : decode cX10_pair 121 = .ok (.aload_n 3, 1) := by decide +kernel
theorem dX10_pair_122 : decode cX10_pair 122 = .ok (.getfield 157, 3) := by decide +kernel
theorem dX10_pair_125 : decode cX10_pair 125 = .ok (.iload 4, 2) := by decide +kernel
theorem dX10_pair_127 : decode cX10_pair 127 = .ok (.invokestatic 140, 3) := by decide +kernel
theorem dX10_pair_130 : decode cX10_pair 130 = .ok (.aload_n 3, 1) := by decide +kernel
theorem dX10_pair_131 : decode cX10_pair 131 = .ok (.getfield 157, 3) := by decide +kernel
theorem dX10_pair_134 : decode cX10_pair 134 = .ok (.iload 5, 2) := by decide +kernel
theorem dX10_pair_136 : decode cX10_pair 136 = .ok (.invokestatic 140, 3) := by decide +kernel
theorem dX10_pair_139 : decode cX10_pair 139 = .ok (.if_icmp .ne 7, 3) := by decide +kernel
theorem dX10_pair_142 : decode cX10_pair 142 = .ok (.iconst 1, 1) := by decide +kernel
theorem dX10_pair_143 : decode cX10_pair 143 = .ok (.goto 4, 3) := by decide +kernel
theorem dX10_pair_146 : decode cX10_pair 146 = .ok (.iconst 0, 1) := by decide +kernel
theorem dX10_pair_147 : decode cX10_pair 147 = .ok (.ireturn, 1) := by decide +kernel
theorem dX10_pair_148 : decode cX10_pair 148 = .ok (.iconst (-1), 1) := by decide +kernel
theorem dX10_pair_149 : decode cX10_pair 149 = .ok (.ireturn, 1) := by decide +kernel
theorem dX10_would_0 : decode cX10_would 0 = .ok (.aload_n 0, 1) := by decide +kernel
theorem dX10_would_1 : decode cX10_would 1 = .ok (.getfield 35, 3) := by decide +kernel
theorem dX10_would_4 : decode cX10_would 4 = .ok (.getfield 84, 3) := by decide +kernel
theorem dX10_would_7 : decode cX10_would 7 = .ok (.astore_n 3, 1) := by decide +kernel
theorem dX10_would_8 : decode cX10_would 8 = .ok (.aload_n 3, 1) := by decide +kernel
theorem dX10_would_9 : decode cX10_would 9 = .ok (.iload_n 1, 1) := by decide +kernel
theorem dX10_would_10 : decode cX10_would 10 = .ok (.invokevirtual 150, 3) := by decide +kernel
theorem dX10_would_13 : decode cX10_would 13 = .ok (.ifCond .eq 11, 3) := by decide +kernel
theorem dX10_would_16 : decode cX10_would 16 = .ok (.aload_n 3, 1) := by decide +kernel
theorem dX10_would_17 : decode cX10_would 17 = .ok (.iload_n 2, 1) := by decide +kernel
theorem dX10_would_18 : decode cX10_would 18 = .ok (.invokevirtual 209, 3) := by decide +kernel
theorem dX10_would_21 : decode cX10_would 21 = .ok (.ifCond .ne 6, 3) := by decide +kernel
theorem dX10_would_24 : decode cX10_would 24 = .ok (.ldc 212, 2) := by decide +kernel
theorem dX10_would_26 : decode cX10_would 26 = .ok (.ireturn, 1) := by decide +kernel
theorem dX10_would_27 : decode cX10_would 27 = .ok (.aload_n 3, 1) := by decide +kernel
theorem dX10_would_28 : decode cX10_would 28 = .ok (.iload_n 1, 1) := by decide +kernel
theorem dX10_would_29 : decode cX10_would 29 = .ok (.aload_n 3, 1) := by decide +kernel
theorem dX10_would_30 : decode cX10_would 30 = .ok (.getfield 103, 3) := by decide +kernel
theorem dX10_would_33 : decode cX10_would 33 = .ok (.getfield 160, 3) := by decide +kernel
theorem dX10_would_36 : decode cX10_would 36 = .ok (.iload_n 1, 1) := by decide +kernel
theorem dX10_would_37 : decode cX10_would 37 = .ok (.invokestatic 140, 3) := by decide +kernel
theorem dX10_would_40 : decode cX10_would 40 = .ok (.iload_n 2, 1) := by decide +kernel
theorem dX10_would_41 : decode cX10_would 41 = .ok (.invokevirtual 216, 3) := by decide +kernel
theorem dX10_would_44 : decode cX10_would 44 = .ok (.ireturn, 1) := by decide +kernel
theorem dX10_wish_0 : decode cX10_wish 0 = .ok (.aload_n 0, 1) := by decide +kernel
theorem dX10_wish_1 : decode cX10_wish 1 = .ok (.getfield 35, 3) := by decide +kernel
theorem dX10_wish_4 : decode cX10_wish 4 = .ok (.getfield 84, 3) := by decide +kernel
theorem dX10_wish_7 : decode cX10_wish 7 = .ok (.iload_n 1, 1) := by decide +kernel
theorem dX10_wish_8 : decode cX10_wish 8 = .ok (.invokevirtual 150, 3) := by decide +kernel
theorem dX10_wish_11 : decode cX10_wish 11 = .ok (.ifCond .eq 17, 3) := by decide +kernel
theorem dX10_wish_14 : decode cX10_wish 14 = .ok (.aload_n 0, 1) := by decide +kernel
theorem dX10_wish_15 : decode cX10_wish 15 = .ok (.getfield 35, 3) := by decide +kernel
theorem dX10_wish_18 : decode cX10_wish 18 = .ok (.getfield 84, 3) := by decide +kernel
theorem dX10_wish_21 : decode cX10_wish 21 = .ok (.iload_n 1, 1) := by decide +kernel
theorem dX10_wish_22 : decode cX10_wish 22 = .ok (.invokevirtual 276, 3) := by decide +kernel
theorem dX10_wish_25 : decode cX10_wish 25 = .ok (.goto 5, 3) := by decide +kernel
theorem dX10_wish_28 : decode cX10_wish 28 = .ok (.bipush (-2), 2) := by decide +kernel
theorem dX10_wish_30 : decode cX10_wish 30 = .ok (.ireturn, 1) := by decide +kernel
theorem dX10_choose_0 : decode cX10_choose 0 = .ok (.iload_n 1, 1) := by decide +kernel
theorem dX10_choose_1 : decode cX10_choose 1 = .ok (.iconst 1, 1) := by decide +kernel
theorem dX10_choose_2 : decode cX10_choose 2 = .ok (.if_icmp .lt 9, 3) := by decide +kernel
theorem dX10_choose_5 : decode cX10_choose 5 = .ok (.iload_n 1, 1) := by decide +kernel
theorem dX10_choose_6 : decode cX10_choose 6 = .ok (.bipush 60, 2) := by decide +kernel
theorem dX10_choose_8 : decode cX10_choose 8 = .ok (.if_icmp .le 5, 3) := by decide +kernel
theorem dX10_choose_11 : decode cX10_choose 11 = .ok (.iconst (-1), 1) := by decide +kernel
theorem dX10_choose_12 : decode cX10_choose 12 = .ok (.ireturn, 1) := by decide +kernel
theorem dX10_choose_13 : decode cX10_choose 13 = .ok (.iconst 1, 1) := by decide +kernel
theorem dX10_choose_14 : decode cX10_choose 14 = .ok (.istore_n 2, 1) := by decide +kernel
theorem dX10_choose_15 : decode cX10_choose 15 = .ok (.iload_n 2, 1) := by decide +kernel
theorem dX10_choose_16 : decode cX10_choose 16 = .ok (.iload_n 1, 1) := by decide +kernel
theorem dX10_choose_17 : decode cX10_choose 17 = .ok (.if_icmp .gt 24, 3) := by decide +kernel
theorem dX10_choose_20 : decode cX10_choose 20 = .ok (.aload_n 0, 1) := by decide +kernel
theorem dX10_choose_21 : decode cX10_choose 21 = .ok (.getfield 35, 3) := by decide +kernel
theorem dX10_choose_24 : decode cX10_choose 24 = .ok (.getfield 84, 3) := by decide +kernel
theorem dX10_choose_27 : decode cX10_choose 27 = .ok (.invokevirtual 279, 3) := by decide +kernel
theorem dX10_choose_30 : decode cX10_choose 30 = .ok (.ifCond .ne 5, 3) := by decide +kernel
theorem dX10_choose_33 : decode cX10_choose 33 = .ok (.iload_n 2, 1) := by decide +kernel
theorem dX10_choose_34 : decode cX10_choose 34 = .ok (.ireturn, 1) := by decide +kernel
theorem dX10_choose_35 : decode cX10_choose 35 = .ok (.iinc 2 1, 3) := by decide +kernel
theorem dX10_choose_38 : decode cX10_choose 38 = .ok (.goto (-23), 3) := by decide +kernel
theorem dX10_choose_41 : decode cX10_choose 41 = .ok (.bipush (-2), 2) := by decide +kernel
theorem dX10_choose_43 : decode cX10_choose 43 = .ok (.ireturn, 1) := by decide +kernel
theorem dX10_stable_0 : decode cX10_stable 0 = .ok (.aload_n 0, 1) := by decide +kernel
theorem dX10_stable_1 : decode cX10_stable 1 = .ok (.getfield 35, 3) := by decide +kernel
theorem dX10_stable_4 : decode cX10_stable 4 = .ok (.getfield 84, 3) := by decide +kernel
theorem dX10_stable_7 : decode cX10_stable 7 = .ok (.astore_n 1, 1) := by decide +kernel
theorem dX10_stable_8 : decode cX10_stable 8 = .ok (.iconst 0, 1) := by decide +kernel
theorem dX10_stable_9 : decode cX10_stable 9 = .ok (.istore_n 2, 1) := by decide +kernel
theorem dX10_stable_10 : decode cX10_stable 10 = .ok (.iload_n 2, 1) := by decide +kernel
theorem dX10_stable_11 : decode cX10_stable 11 = .ok (.aload_n 1, 1) := by decide +kernel
theorem dX10_stable_12 : decode cX10_stable 12 = .ok (.getfield 103, 3) := by decide +kernel
theorem dX10_stable_15 : decode cX10_stable 15 = .ok (.getfield 107, 3) := by decide +kernel
theorem dX10_stable_18 : decode cX10_stable 18 = .ok (.if_icmp .ge 30, 3) := by decide +kernel
theorem dX10_stable_21 : decode cX10_stable 21 = .ok (.aload_n 1, 1) := by decide +kernel
theorem dX10_stable_22 : decode cX10_stable 22 = .ok (.iload_n 2, 1) := by decide +kernel
theorem dX10_stable_23 : decode cX10_stable 23 = .ok (.invokevirtual 276, 3) := by decide +kernel
theorem dX10_stable_26 : decode cX10_stable 26 = .ok (.aload_n 1, 1) := by decide +kernel
theorem dX10_stable_27 : decode cX10_stable 27 = .ok (.getfield 103, 3) := by decide +kernel
theorem dX10_stable_30 : decode cX10_stable 30 = .ok (.getfield 157, 3) := by decide +kernel
theorem dX10_stable_33 : decode cX10_stable 33 = .ok (.iload_n 2, 1) := by decide +kernel
theorem dX10_stable_34 : decode cX10_stable 34 = .ok (.invokestatic 140, 3) := by decide +kernel
theorem dX10_stable_37 : decode cX10_stable 37 = .ok (.if_icmp .eq 5, 3) := by decide +kernel
theorem dX10_stable_40 : decode cX10_stable 40 = .ok (.iconst 0, 1) := by decide +kernel
theorem dX10_stable_41 : decode cX10_stable 41 = .ok (.ireturn, 1) := by decide +kernel
theorem dX10_stable_42 : decode cX10_stable 42 = .ok (.iinc 2 1, 3) := by decide +kernel
theorem dX10_stable_45 : decode cX10_stable 45 = .ok (.goto (-35), 3) := by decide +kernel
theorem dX10_stable_48 : decode cX10_stable 48 = .ok (.iconst 1, 1) := by decide +kernel
theorem dX10_stable_49 : decode cX10_stable 49 = .ok (.ireturn, 1) := by decide +kernel
theorem dX10_gap_0 : decode cX10_gap 0 = .ok (.aload_n 0, 1) := by decide +kernel
theorem dX10_gap_1 : decode cX10_gap 1 = .ok (.getfield 35, 3) := by decide +kernel
theorem dX10_gap_4 : decode cX10_gap 4 = .ok (.getfield 84, 3) := by decide +kernel
theorem dX10_gap_7 : decode cX10_gap 7 = .ok (.astore_n 2, 1) := by decide +kernel
theorem dX10_gap_8 : decode cX10_gap 8 = .ok (.aload_n 2, 1) := by decide +kernel
theorem dX10_gap_9 : decode cX10_gap 9 = .ok (.iload_n 1, 1) := by decide +kernel
theorem dX10_gap_10 : decode cX10_gap 10 = .ok (.invokevirtual 150, 3) := by decide +kernel
theorem dX10_gap_13 : decode cX10_gap 13 = .ok (.ifCond .ne 5, 3) := by decide +kernel
theorem dX10_gap_16 : decode cX10_gap 16 = .ok (.iconst (-1), 1) := by decide +kernel
theorem dX10_gap_17 : decode cX10_gap 17 = .ok (.ireturn, 1) := by decide +kernel
theorem dX10_gap_18 : decode cX10_gap 18 = .ok (.aload_n 2, 1) := by decide +kernel
theorem dX10_gap_19 : decode cX10_gap 19 = .ok (.iload_n 1, 1) := by decide +kernel
theorem dX10_gap_20 : decode cX10_gap 20 = .ok (.aload_n 2, 1) := by decide +kernel
theorem dX10_gap_21 : decode cX10_gap 21 = .ok (.getfield 103, 3) := by decide +kernel
theorem dX10_gap_24 : decode cX10_gap 24 = .ok (.getfield 160, 3) := by decide +kernel
theorem dX10_gap_27 : decode cX10_gap 27 = .ok (.iload_n 1, 1) := by decide +kernel
theorem dX10_gap_28 : decode cX10_gap 28 = .ok (.invokestatic 140, 3) := by decide +kernel
theorem dX10_gap_31 : decode cX10_gap 31 = .ok (.aload_n 2, 1) := by decide +kernel
theorem dX10_gap_32 : decode cX10_gap 32 = .ok (.iload_n 1, 1) := by decide +kernel
theorem dX10_gap_33 : decode cX10_gap 33 = .ok (.invokevirtual 276, 3) := by decide +kernel
theorem dX10_gap_36 : decode cX10_gap 36 = .ok (.invokevirtual 216, 3) := by decide +kernel
theorem dX10_gap_39 : decode cX10_gap 39 = .ok (.istore_n 3, 1) := by decide +kernel
theorem dX10_gap_40 : decode cX10_gap 40 = .ok (.iload_n 3, 1) := by decide +kernel
theorem dX10_gap_41 : decode cX10_gap 41 = .ok (.aload_n 2, 1) := by decide +kernel
theorem dX10_gap_42 : decode cX10_gap 42 = .ok (.iload_n 1, 1) := by decide +kernel
theorem dX10_gap_43 : decode cX10_gap 43 = .ok (.invokevirtual 213, 3) := by decide +kernel
theorem dX10_gap_46 : decode cX10_gap 46 = .ok (.isub, 1) := by decide +kernel
theorem dX10_gap_47 : decode cX10_gap 47 = .ok (.ireturn, 1) := by decide +kernel
theorem dX10_rings_0 : decode cX10_rings 0 = .ok (.aload_n 0, 1) := by decide +kernel
theorem dX10_rings_1 : decode cX10_rings 1 = .ok (.getfield 35, 3) := by decide +kernel
theorem dX10_rings_4 : decode cX10_rings 4 = .ok (.getfield 84, 3) := by decide +kernel
theorem dX10_rings_7 : decode cX10_rings 7 = .ok (.astore_n 3, 1) := by decide +kernel
theorem dX10_rings_8 : decode cX10_rings 8 = .ok (.iload_n 1, 1) := by decide +kernel
theorem dX10_rings_9 : decode cX10_rings 9 = .ok (.aload_n 3, 1) := by decide +kernel
theorem dX10_rings_10 : decode cX10_rings 10 = .ok (.getfield 96, 3) := by decide +kernel
theorem dX10_rings_13 : decode cX10_rings 13 = .ok (.getfield 100, 3) := by decide +kernel
theorem dX10_rings_16 : decode cX10_rings 16 = .ok (.invokestatic 133, 3) := by decide +kernel
theorem dX10_rings_19 : decode cX10_rings 19 = .ok (.ifCond .eq 17, 3) := by decide +kernel
theorem dX10_rings_22 : decode cX10_rings 22 = .ok (.iload_n 2, 1) := by decide +kernel
theorem dX10_rings_23 : decode cX10_rings 23 = .ok (.aload_n 3, 1) := by decide +kernel
theorem dX10_rings_24 : decode cX10_rings 24 = .ok (.getfield 103, 3) := by decide +kernel
theorem dX10_rings_27 : decode cX10_rings 27 = .ok (.getfield 107, 3) := by decide +kernel
theorem dX10_rings_30 : decode cX10_rings 30 = .ok (.invokestatic 133, 3) := by decide +kernel
theorem dX10_rings_33 : decode cX10_rings 33 = .ok (.ifCond .ne 5, 3) := by decide +kernel
theorem dX10_rings_36 : decode cX10_rings 36 = .ok (.iconst (-1), 1) := by decide +kernel
theorem dX10_rings_37 : decode cX10_rings 37 = .ok (.ireturn, 1) := by decide +kernel
theorem dX10_rings_38 : decode cX10_rings 38 = .ok (.aload_n 0, 1) := by decide +kernel
theorem dX10_rings_39 : decode cX10_rings 39 = .ok (.getfield 28, 3) := by decide +kernel
theorem dX10_rings_42 : decode cX10_rings 42 = .ok (.aload_n 3, 1) := by decide +kernel
theorem dX10_rings_43 : decode cX10_rings 43 = .ok (.invokevirtual 232, 3) := by decide +kernel
theorem dX10_rings_46 : decode cX10_rings 46 = .ok (.iconst (-1), 1) := by decide +kernel
theorem dX10_rings_47 : decode cX10_rings 47 = .ok (.istore 4, 2) := by decide +kernel
theorem dX10_rings_49 : decode cX10_rings 49 = .ok (.iconst 0, 1) := by decide +kernel
theorem dX10_rings_50 : decode cX10_rings 50 = .ok (.istore 5, 2) := by decide +kernel
theorem dX10_rings_52 : decode cX10_rings 52 = .ok (.iload 5, 2) := by decide +kernel
theorem dX10_rings_54 : decode cX10_rings 54 = .ok (.iload_n 2, 1) := by decide +kernel
theorem dX10_rings_55 : decode cX10_rings 55 = .ok (.if_icmp .gt 43, 3) := by decide +kernel
theorem dX10_rings_58 : decode cX10_rings 58 = .ok (.aload_n 0, 1) := by decide +kernel
theorem dX10_rings_59 : decode cX10_rings 59 = .ok (.getfield 28, 3) := by decide +kernel
theorem dX10_rings_62 : decode cX10_rings 62 = .ok (.iload_n 1, 1) := by decide +kernel
theorem dX10_rings_63 : decode cX10_rings 63 = .ok (.invokevirtual 282, 3) := by decide +kernel
theorem dX10_rings_66 : decode cX10_rings 66 = .ok (.istore 4, 2) := by decide +kernel
theorem dX10_rings_68 : decode cX10_rings 68 = .ok (.iload 4, 2) := by decide +kernel
theorem dX10_rings_70 : decode cX10_rings 70 = .ok (.iconst (-1), 1) := by decide +kernel
theorem dX10_rings_71 : decode cX10_rings 71 = .ok (.if_icmp .ne 5, 3) := by decide +kernel
theorem dX10_rings_74 : decode cX10_rings 74 = .ok (.iconst (-1), 1) := by decide +kernel
theorem dX10_rings_75 : decode cX10_rings 75 = .ok (.ireturn, 1) := by decide +kernel
theorem dX10_rings_76 : decode cX10_rings 76 = .ok (.aload_n 0, 1) := by decide +kernel
theorem dX10_rings_77 : decode cX10_rings 77 = .ok (.getfield 28, 3) := by decide +kernel
theorem dX10_rings_80 : decode cX10_rings 80 = .ok (.getfield 103, 3) := by decide +kernel
theorem dX10_rings_83 : decode cX10_rings 83 = .ok (.getfield 157, 3) := by decide +kernel
theorem dX10_rings_86 : decode cX10_rings 86 = .ok (.iload 4, 2) := by decide +kernel
theorem dX10_rings_88 : decode cX10_rings 88 = .ok (.iconst (-1), 1) := by decide +kernel
theorem dX10_rings_89 : decode cX10_rings 89 = .ok (.invokestatic 205, 3) := by decide +kernel
theorem dX10_rings_92 : decode cX10_rings 92 = .ok (.iinc 5 1, 3) := by decide +kernel
theorem dX10_rings_95 : decode cX10_rings 95 = .ok (.goto (-43), 3) := by decide +kernel
theorem dX10_rings_98 : decode cX10_rings 98 = .ok (.iload 4, 2) := by decide +kernel
theorem dX10_rings_100 : decode cX10_rings 100 = .ok (.ireturn, 1) := by decide +kernel
theorem dX10_seed_0 : decode cX10_seed 0 = .ok (.iload_n 1, 1) := by decide +kernel
theorem dX10_seed_1 : decode cX10_seed 1 = .ok (.ifCond .ge 5, 3) := by decide +kernel
theorem dX10_seed_4 : decode cX10_seed 4 = .ok (.iconst 0, 1) := by decide +kernel
theorem dX10_seed_5 : decode cX10_seed 5 = .ok (.ireturn, 1) := by decide +kernel
theorem dX10_seed_6 : decode cX10_seed 6 = .ok (.aload_n 0, 1) := by decide +kernel
theorem dX10_seed_7 : decode cX10_seed 7 = .ok (.getfield 19, 3) := by decide +kernel
theorem dX10_seed_10 : decode cX10_seed 10 = .ok (.iload_n 1, 1) := by decide +kernel
theorem dX10_seed_11 : decode cX10_seed 11 = .ok (.putfield 285, 3) := by decide +kernel
theorem dX10_seed_14 : decode cX10_seed 14 = .ok (.iconst 1, 1) := by decide +kernel
theorem dX10_seed_15 : decode cX10_seed 15 = .ok (.ireturn, 1) := by decide +kernel
theorem dX10_run_0 : decode cX10_run 0 = .ok (.iload_n 1, 1) := by decide +kernel
theorem dX10_run_1 : decode cX10_run 1 = .ok (.iconst 1, 1) := by decide +kernel
theorem dX10_run_2 : decode cX10_run 2 = .ok (.if_icmp .lt 24, 3) := by decide +kernel
theorem dX10_run_5 : decode cX10_run 5 = .ok (.iload_n 1, 1) := by decide +kernel
theorem dX10_run_6 : decode cX10_run 6 = .ok (.bipush 60, 2) := by decide +kernel
theorem dX10_run_8 : decode cX10_run 8 = .ok (.if_icmp .gt 18, 3) := by decide +kernel
theorem dX10_run_11 : decode cX10_run 11 = .ok (.aload_n 0, 1) := by decide +kernel
theorem dX10_run_12 : decode cX10_run 12 = .ok (.getfield 19, 3) := by decide +kernel
theorem dX10_run_15 : decode cX10_run 15 = .ok (.getfield 123, 3) := by decide +kernel
theorem dX10_run_18 : decode cX10_run 18 = .ok (.iload_n 1, 1) := by decide +kernel
theorem dX10_run_19 : decode cX10_run 19 = .ok (.iadd, 1) := by decide +kernel
theorem dX10_run_20 : decode cX10_run 20 = .ok (.sipush 9999, 3) := by decide +kernel
theorem dX10_run_23 : decode cX10_run 23 = .ok (.if_icmp .le 5, 3) := by decide +kernel
theorem dX10_run_26 : decode cX10_run 26 = .ok (.iconst (-1), 1) := by decide +kernel
theorem dX10_run_27 : decode cX10_run 27 = .ok (.ireturn, 1) := by decide +kernel
theorem dX10_run_28 : decode cX10_run 28 = .ok (.iconst 0, 1) := by decide +kernel
theorem dX10_run_29 : decode cX10_run 29 = .ok (.istore_n 2, 1) := by decide +kernel
theorem dX10_run_30 : decode cX10_run 30 = .ok (.iconst 0, 1) := by decide +kernel
theorem dX10_run_31 : decode cX10_run 31 = .ok (.istore_n 3, 1) := by decide +kernel
theorem dX10_run_32 : decode cX10_run 32 = .ok (.iload_n 3, 1) := by decide +kernel
theorem dX10_run_33 : decode cX10_run 33 = .ok (.iload_n 1, 1) := by decide +kernel
theorem dX10_run_34 : decode cX10_run 34 = .ok (.if_icmp .ge 23, 3) := by decide +kernel
theorem dX10_run_37 : decode cX10_run 37 = .ok (.iload_n 2, 1) := by decide +kernel
theorem dX10_run_38 : decode cX10_run 38 = .ok (.aload_n 0, 1) := by decide +kernel
theorem dX10_run_39 : decode cX10_run 39 = .ok (.getfield 19, 3) := by decide +kernel
theorem dX10_run_42 : decode cX10_run 42 = .ok (.aload_n 0, 1) := by decide +kernel
theorem dX10_run_43 : decode cX10_run 43 = .ok (.getfield 35, 3) := by decide +kernel
theorem dX10_run_46 : decode cX10_run 46 = .ok (.invokevirtual 288, 3) := by decide +kernel
theorem dX10_run_49 : decode cX10_run 49 = .ok (.iadd, 1) := by decide +kernel
theorem dX10_run_50 : decode cX10_run 50 = .ok (.istore_n 2, 1) := by decide +kernel
theorem dX10_run_51 : decode cX10_run 51 = .ok (.iinc 3 1, 3) := by decide +kernel
theorem dX10_run_54 : decode cX10_run 54 = .ok (.goto (-22), 3) := by decide +kernel
theorem dX10_run_57 : decode cX10_run 57 = .ok (.iload_n 2, 1) := by decide +kernel
theorem dX10_run_58 : decode cX10_run 58 = .ok (.ireturn, 1) := by decide +kernel
theorem dX10_drew_0 : decode cX10_drew 0 = .ok (.aload_n 0, 1) := by decide +kernel
theorem dX10_drew_1 : decode cX10_drew 1 = .ok (.getfield 35, 3) := by decide +kernel
theorem dX10_drew_4 : decode cX10_drew 4 = .ok (.getfield 84, 3) := by decide +kernel
theorem dX10_drew_7 : decode cX10_drew 7 = .ok (.iload_n 1, 1) := by decide +kernel
theorem dX10_drew_8 : decode cX10_drew 8 = .ok (.invokevirtual 150, 3) := by decide +kernel
theorem dX10_drew_11 : decode cX10_drew 11 = .ok (.ifCond .eq 17, 3) := by decide +kernel
theorem dX10_drew_14 : decode cX10_drew 14 = .ok (.aload_n 0, 1) := by decide +kernel
theorem dX10_drew_15 : decode cX10_drew 15 = .ok (.getfield 19, 3) := by decide +kernel
theorem dX10_drew_18 : decode cX10_drew 18 = .ok (.getfield 292, 3) := by decide +kernel
theorem dX10_drew_21 : decode cX10_drew 21 = .ok (.iload_n 1, 1) := by decide +kernel
theorem dX10_drew_22 : decode cX10_drew 22 = .ok (.invokestatic 140, 3) := by decide +kernel
theorem dX10_drew_25 : decode cX10_drew 25 = .ok (.goto 4, 3) := by decide +kernel
theorem dX10_drew_28 : decode cX10_drew 28 = .ok (.iconst (-1), 1) := by decide +kernel
theorem dX10_drew_29 : decode cX10_drew 29 = .ok (.ireturn, 1) := by decide +kernel
theorem dX10_said_0 : decode cX10_said 0 = .ok (.aload_n 0, 1) := by decide +kernel
theorem dX10_said_1 : decode cX10_said 1 = .ok (.getfield 35, 3) := by decide +kernel
theorem dX10_said_4 : decode cX10_said 4 = .ok (.getfield 84, 3) := by decide +kernel
theorem dX10_said_7 : decode cX10_said 7 = .ok (.iload_n 1, 1) := by decide +kernel
theorem dX10_said_8 : decode cX10_said 8 = .ok (.invokevirtual 150, 3) := by decide +kernel
theorem dX10_said_11 : decode cX10_said 11 = .ok (.ifCond .eq 17, 3) := by decide +kernel
theorem dX10_said_14 : decode cX10_said 14 = .ok (.aload_n 0, 1) := by decide +kernel
theorem dX10_said_15 : decode cX10_said 15 = .ok (.getfield 35, 3) := by decide +kernel
theorem dX10_said_18 : decode cX10_said 18 = .ok (.getfield 84, 3) := by decide +kernel
theorem dX10_said_21 : decode cX10_said 21 = .ok (.iload_n 2, 1) := by decide +kernel
theorem dX10_said_22 : decode cX10_said 22 = .ok (.invokevirtual 202, 3) := by decide +kernel
theorem dX10_said_25 : decode cX10_said 25 = .ok (.ifCond .ne 5, 3) := by decide +kernel
theorem dX10_said_28 : decode cX10_said 28 = .ok (.iconst 0, 1) := by decide +kernel
theorem dX10_said_29 : decode cX10_said 29 = .ok (.ireturn, 1) := by decide +kernel
theorem dX10_said_30 : decode cX10_said 30 = .ok (.aload_n 0, 1) := by decide +kernel
theorem dX10_said_31 : decode cX10_said 31 = .ok (.getfield 19, 3) := by decide +kernel
theorem dX10_said_34 : decode cX10_said 34 = .ok (.getfield 295, 3) := by decide +kernel
theorem dX10_said_37 : decode cX10_said 37 = .ok (.iload_n 1, 1) := by decide +kernel
theorem dX10_said_38 : decode cX10_said 38 = .ok (.iload_n 2, 1) := by decide +kernel
theorem dX10_said_39 : decode cX10_said 39 = .ok (.invokestatic 205, 3) := by decide +kernel
theorem dX10_said_42 : decode cX10_said 42 = .ok (.iconst 1, 1) := by decide +kernel
theorem dX10_said_43 : decode cX10_said 43 = .ok (.ireturn, 1) := by decide +kernel
theorem dX10_less_0 : decode cX10_less 0 = .ok (.aload_n 0, 1) := by decide +kernel
theorem dX10_less_1 : decode cX10_less 1 = .ok (.getfield 35, 3) := by decide +kernel
theorem dX10_less_4 : decode cX10_less 4 = .ok (.getfield 84, 3) := by decide +kernel
theorem dX10_less_7 : decode cX10_less 7 = .ok (.getfield 103, 3) := by decide +kernel
theorem dX10_less_10 : decode cX10_less 10 = .ok (.astore_n 1, 1) := by decide +kernel
theorem dX10_less_11 : decode cX10_less 11 = .ok (.iconst 0, 1) := by decide +kernel
theorem dX10_less_12 : decode cX10_less 12 = .ok (.istore_n 2, 1) := by decide +kernel
theorem dX10_less_13 : decode cX10_less 13 = .ok (.iconst 0, 1) := by decide +kernel
theorem dX10_less_14 : decode cX10_less 14 = .ok (.istore_n 3, 1) := by decide +kernel
theorem dX10_less_15 : decode cX10_less 15 = .ok (.iload_n 3, 1) := by decide +kernel
theorem dX10_less_16 : decode cX10_less 16 = .ok (.aload_n 1, 1) := by decide +kernel
theorem dX10_less_17 : decode cX10_less 17 = .ok (.getfield 107, 3) := by decide +kernel
theorem dX10_less_20 : decode cX10_less 20 = .ok (.if_icmp .ge 37, 3) := by decide +kernel
theorem dX10_less_23 : decode cX10_less 23 = .ok (.aload_n 1, 1) := by decide +kernel
theorem dX10_less_24 : decode cX10_less 24 = .ok (.getfield 160, 3) := by decide +kernel
theorem dX10_less_27 : decode cX10_less 27 = .ok (.iload_n 3, 1) := by decide +kernel
theorem dX10_less_28 : decode cX10_less 28 = .ok (.invokestatic 140, 3) := by decide +kernel
theorem dX10_less_31 : decode cX10_less 31 = .ok (.aload_n 0, 1) := by decide +kernel
theorem dX10_less_32 : decode cX10_less 32 = .ok (.getfield 19, 3) := by decide +kernel
theorem dX10_less_35 : decode cX10_less 35 = .ok (.getfield 295, 3) := by decide +kernel
theorem dX10_less_38 : decode cX10_less 38 = .ok (.iload_n 3, 1) := by decide +kernel
theorem dX10_less_39 : decode cX10_less 39 = .ok (.invokestatic 140, 3) := by decide +kernel
theorem dX10_less_42 : decode cX10_less 42 = .ok (.if_icmp .ge 9, 3) := by decide +kernel
theorem dX10_less_45 : decode cX10_less 45 = .ok (.iload_n 2, 1) := by decide +kernel
theorem dX10_less_46 : decode cX10_less 46 = .ok (.iconst 1, 1) := by decide +kernel
theorem dX10_less_47 : decode cX10_less 47 = .ok (.iload_n 3, 1) := by decide +kernel
theorem dX10_less_48 : decode cX10_less 48 = .ok (.ishl, 1) := by decide +kernel
theorem dX10_less_49 : decode cX10_less 49 = .ok (.ior, 1) := by decide +kernel
theorem dX10_less_50 : decode cX10_less 50 = .ok (.istore_n 2, 1) := by decide +kernel
theorem dX10_less_51 : decode cX10_less 51 = .ok (.iinc 3 1, 3) := by decide +kernel
theorem dX10_less_54 : decode cX10_less 54 = .ok (.goto (-39), 3) := by decide +kernel
theorem dX10_less_57 : decode cX10_less 57 = .ok (.iload_n 2, 1) := by decide +kernel
theorem dX10_less_58 : decode cX10_less 58 = .ok (.ireturn, 1) := by decide +kernel
theorem dX10_image_0 : decode cX10_image 0 = .ok (.aload_n 0, 1) := by decide +kernel
theorem dX10_image_1 : decode cX10_image 1 = .ok (.getfield 35, 3) := by decide +kernel
theorem dX10_image_4 : decode cX10_image 4 = .ok (.getfield 84, 3) := by decide +kernel
theorem dX10_image_7 : decode cX10_image 7 = .ok (.getfield 103, 3) := by decide +kernel
theorem dX10_image_10 : decode cX10_image 10 = .ok (.astore_n 1, 1) := by decide +kernel
theorem dX10_image_11 : decode cX10_image 11 = .ok (.aload_n 0, 1) := by decide +kernel
theorem dX10_image_12 : decode cX10_image 12 = .ok (.iconst 0, 1) := by decide +kernel
theorem dX10_image_13 : decode cX10_image 13 = .ok (.putfield 298, 3) := by decide +kernel
theorem dX10_image_16 : decode cX10_image 16 = .ok (.aload_n 0, 1) := by decide +kernel
theorem dX10_image_17 : decode cX10_image 17 = .ok (.aload_n 1, 1) := by decide +kernel
theorem dX10_image_18 : decode cX10_image 18 = .ok (.getfield 107, 3) := by decide +kernel
theorem dX10_image_21 : decode cX10_image 21 = .ok (.invokevirtual 301, 3) := by decide +kernel
theorem dX10_image_24 : decode cX10_image 24 = .ok (.iconst 0, 1) := by decide +kernel
theorem dX10_image_25 : decode cX10_image 25 = .ok (.istore_n 2, 1) := by decide +kernel
theorem dX10_image_26 : decode cX10_image 26 = .ok (.iload_n 2, 1) := by decide +kernel
theorem dX10_image_27 : decode cX10_image 27 = .ok (.aload_n 1, 1) := by decide +kernel
theorem dX10_image_28 : decode cX10_image 28 = .ok (.getfield 107, 3) := by decide +kernel
theorem dX10_image_31 : decode cX10_image 31 = .ok (.if_icmp .ge 50, 3) := by decide +kernel
theorem dX10_image_34 : decode cX10_image 34 = .ok (.aload_n 0, 1) := by decide +kernel
theorem dX10_image_35 : decode cX10_image 35 = .ok (.aload_n 1, 1) := by decide +kernel
theorem dX10_image_36 : decode cX10_image 36 = .ok (.getfield 157, 3) := by decide +kernel
theorem dX10_image_39 : decode cX10_image 39 = .ok (.iload_n 2, 1) := by decide +kernel
theorem dX10_image_40 : decode cX10_image 40 = .ok (.invokestatic 140, 3) := by decide +kernel
theorem dX10_image_43 : decode cX10_image 43 = .ok (.iconst 1, 1) := by decide +kernel
theorem dX10_image_44 : decode cX10_image 44 = .ok (.iadd, 1) := by decide +kernel
theorem dX10_image_45 : decode cX10_image 45 = .ok (.invokevirtual 301, 3) := by decide +kernel
theorem dX10_image_48 : decode cX10_image 48 = .ok (.aload_n 0, 1) := by decide +kernel
theorem dX10_image_49 : decode cX10_image 49 = .ok (.aload_n 1, 1) := by decide +kernel
theorem dX10_image_50 : decode cX10_image 50 = .ok (.getfield 160, 3) := by decide +kernel
theorem dX10_image_53 : decode cX10_image 53 = .ok (.iload_n 2, 1) := by decide +kernel
theorem dX10_image_54 : decode cX10_image 54 = .ok (.invokestatic 140, 3) := by decide +kernel
theorem dX10_image_57 : decode cX10_image 57 = .ok (.invokevirtual 301, 3) := by decide +kernel
theorem dX10_image_60 : decode cX10_image 60 = .ok (.aload_n 0, 1) := by decide +kernel
theorem dX10_image_61 : decode cX10_image 61 = .ok (.aload_n 0, 1) := by decide +kernel
theorem dX10_image_62 : decode cX10_image 62 = .ok (.getfield 19, 3) := by decide +kernel
theorem dX10_image_65 : decode cX10_image 65 = .ok (.getfield 172, 3) := by decide +kernel
theorem dX10_image_68 : decode cX10_image 68 = .ok (.iload_n 2, 1) := by decide +kernel
theorem dX10_image_69 : decode cX10_image 69 = .ok (.invokestatic 140, 3) := by decide +kernel
theorem dX10_image_72 : decode cX10_image 72 = .ok (.invokevirtual 304, 3) := by decide +kernel
theorem dX10_image_75 : decode cX10_image 75 = .ok (.iinc 2 1, 3) := by decide +kernel
theorem dX10_image_78 : decode cX10_image 78 = .ok (.goto (-52), 3) := by decide +kernel
theorem dX10_image_81 : decode cX10_image 81 = .ok (.aload_n 0, 1) := by decide +kernel
theorem dX10_image_82 : decode cX10_image 82 = .ok (.aload_n 0, 1) := by decide +kernel
theorem dX10_image_83 : decode cX10_image 83 = .ok (.getfield 19, 3) := by decide +kernel
theorem dX10_image_86 : decode cX10_image 86 = .ok (.getfield 123, 3) := by decide +kernel
theorem dX10_image_89 : decode cX10_image 89 = .ok (.invokevirtual 304, 3) := by decide +kernel
theorem dX10_image_92 : decode cX10_image 92 = .ok (.aload_n 0, 1) := by decide +kernel
theorem dX10_image_93 : decode cX10_image 93 = .ok (.aload_n 0, 1) := by decide +kernel
theorem dX10_image_94 : decode cX10_image 94 = .ok (.getfield 13, 3) := by decide +kernel
theorem dX10_image_97 : decode cX10_image 97 = .ok (.aload_n 0, 1) := by decide +kernel
theorem dX10_image_98 : decode cX10_image 98 = .ok (.getfield 298, 3) := by decide +kernel
theorem dX10_image_101 : decode cX10_image 101 = .ok (.invokestatic 307, 3) := by decide +kernel
theorem dX10_image_104 : decode cX10_image 104 = .ok (.invokevirtual 301, 3) := by decide +kernel
theorem dX10_image_107 : decode cX10_image 107 = .ok (.aload_n 0, 1) := by decide +kernel
theorem dX10_image_108 : decode cX10_image 108 = .ok (.getfield 298, 3) := by decide +kernel
theorem dX10_image_111 : decode cX10_image 111 = .ok (.ireturn, 1) := by decide +kernel
theorem dX10_paint_0 : decode cX10_paint 0 = .ok (.aload_n 0, 1) := by decide +kernel
theorem dX10_paint_1 : decode cX10_paint 1 = .ok (.getfield 13, 3) := by decide +kernel
theorem dX10_paint_4 : decode cX10_paint 4 = .ok (.aload_n 0, 1) := by decide +kernel
theorem dX10_paint_5 : decode cX10_paint 5 = .ok (.getfield 298, 3) := by decide +kernel
theorem dX10_paint_8 : decode cX10_paint 8 = .ok (.iload_n 1, 1) := by decide +kernel
theorem dX10_paint_9 : decode cX10_paint 9 = .ok (.sipush 255, 3) := by decide +kernel
theorem dX10_paint_12 : decode cX10_paint 12 = .ok (.iand, 1) := by decide +kernel
theorem dX10_paint_13 : decode cX10_paint 13 = .ok (.invokestatic 205, 3) := by decide +kernel
theorem dX10_paint_16 : decode cX10_paint 16 = .ok (.aload_n 0, 1) := by decide +kernel
theorem dX10_paint_17 : decode cX10_paint 17 = .ok (.dup, 1) := by decide +kernel
theorem dX10_paint_18 : decode cX10_paint 18 = .ok (.getfield 298, 3) := by decide +kernel
theorem dX10_paint_21 : decode cX10_paint 21 = .ok (.iconst 1, 1) := by decide +kernel
theorem dX10_paint_22 : decode cX10_paint 22 = .ok (.iadd, 1) := by decide +kernel
theorem dX10_paint_23 : decode cX10_paint 23 = .ok (.putfield 298, 3) := by decide +kernel
theorem dX10_paint_26 : decode cX10_paint 26 = .ok (.return_, 1) := by decide +kernel
theorem dX10_paintTwo_0 : decode cX10_paintTwo 0 = .ok (.aload_n 0, 1) := by decide +kernel
theorem dX10_paintTwo_1 : decode cX10_paintTwo 1 = .ok (.iload_n 1, 1) := by decide +kernel
theorem dX10_paintTwo_2 : decode cX10_paintTwo 2 = .ok (.bipush 8, 2) := by decide +kernel
theorem dX10_paintTwo_4 : decode cX10_paintTwo 4 = .ok (.ishr, 1) := by decide +kernel
theorem dX10_paintTwo_5 : decode cX10_paintTwo 5 = .ok (.invokevirtual 301, 3) := by decide +kernel
theorem dX10_paintTwo_8 : decode cX10_paintTwo 8 = .ok (.aload_n 0, 1) := by decide +kernel
theorem dX10_paintTwo_9 : decode cX10_paintTwo 9 = .ok (.iload_n 1, 1) := by decide +kernel
theorem dX10_paintTwo_10 : decode cX10_paintTwo 10 = .ok (.invokevirtual 301, 3) := by decide +kernel
theorem dX10_paintTwo_13 : decode cX10_paintTwo 13 = .ok (.return_, 1) := by decide +kernel
theorem dX10_octet_0 : decode cX10_octet 0 = .ok (.iload_n 1, 1) := by decide +kernel
theorem dX10_octet_1 : decode cX10_octet 1 = .ok (.aload_n 0, 1) := by decide +kernel
theorem dX10_octet_2 : decode cX10_octet 2 = .ok (.getfield 298, 3) := by decide +kernel
theorem dX10_octet_5 : decode cX10_octet 5 = .ok (.invokestatic 133, 3) := by decide +kernel
theorem dX10_octet_8 : decode cX10_octet 8 = .ok (.ifCond .eq 14, 3) := by decide +kernel
theorem dX10_octet_11 : decode cX10_octet 11 = .ok (.aload_n 0, 1) := by decide +kernel
theorem dX10_octet_12 : decode cX10_octet 12 = .ok (.getfield 13, 3) := by decide +kernel
theorem dX10_octet_15 : decode cX10_octet 15 = .ok (.iload_n 1, 1) := by decide +kernel
theorem dX10_octet_16 : decode cX10_octet 16 = .ok (.invokestatic 140, 3) := by decide +kernel
theorem dX10_octet_19 : decode cX10_octet 19 = .ok (.goto 4, 3) := by decide +kernel
theorem dX10_octet_22 : decode cX10_octet 22 = .ok (.iconst (-1), 1) := by decide +kernel
theorem dX10_octet_23 : decode cX10_octet 23 = .ok (.ireturn, 1) := by decide +kernel
theorem dX10_on_0 : decode cX10_on 0 = .ok (.aload_n 0, 1) := by decide +kernel
theorem dX10_on_1 : decode cX10_on 1 = .ok (.getfield 51, 3) := by decide +kernel
theorem dX10_on_4 : decode cX10_on 4 = .ok (.istore_n 1, 1) := by decide +kernel
theorem dX10_on_5 : decode cX10_on 5 = .ok (.aload_n 0, 1) := by decide +kernel
theorem dX10_on_6 : decode cX10_on 6 = .ok (.iconst 0, 1) := by decide +kernel
theorem dX10_on_7 : decode cX10_on 7 = .ok (.putfield 51, 3) := by decide +kernel
theorem dX10_on_10 : decode cX10_on 10 = .ok (.aload_n 0, 1) := by decide +kernel
theorem dX10_on_11 : decode cX10_on 11 = .ok (.iload_n 1, 1) := by decide +kernel
theorem dX10_on_12 : decode cX10_on 12 = .ok (.invokevirtual 310, 3) := by decide +kernel
theorem dX10_on_15 : decode cX10_on 15 = .ok (.ifCond .ne 5, 3) := by decide +kernel
theorem dX10_on_18 : decode cX10_on 18 = .ok (.iconst 0, 1) := by decide +kernel
theorem dX10_on_19 : decode cX10_on 19 = .ok (.ireturn, 1) := by decide +kernel
theorem dX10_on_20 : decode cX10_on 20 = .ok (.aload_n 0, 1) := by decide +kernel
theorem dX10_on_21 : decode cX10_on 21 = .ok (.getfield 35, 3) := by decide +kernel
theorem dX10_on_24 : decode cX10_on 24 = .ok (.getfield 84, 3) := by decide +kernel
theorem dX10_on_27 : decode cX10_on 27 = .ok (.getfield 103, 3) := by decide +kernel
theorem dX10_on_30 : decode cX10_on 30 = .ok (.astore_n 2, 1) := by decide +kernel
theorem dX10_on_31 : decode cX10_on 31 = .ok (.iconst 0, 1) := by decide +kernel
theorem dX10_on_32 : decode cX10_on 32 = .ok (.istore_n 3, 1) := by decide +kernel
theorem dX10_on_33 : decode cX10_on 33 = .ok (.iload_n 3, 1) := by decide +kernel
theorem dX10_on_34 : decode cX10_on 34 = .ok (.aload_n 2, 1) := by decide +kernel
theorem dX10_on_35 : decode cX10_on 35 = .ok (.getfield 107, 3) := by decide +kernel
theorem dX10_on_38 : decode cX10_on 38 = .ok (.if_icmp .ge 73, 3) := by decide +kernel
theorem dX10_on_41 : decode cX10_on 41 = .ok (.iconst 1, 1) := by decide +kernel
theorem dX10_on_42 : decode cX10_on 42 = .ok (.iconst 4, 1) := by decide +kernel
theorem dX10_on_43 : decode cX10_on 43 = .ok (.iload_n 3, 1) := by decide +kernel
theorem dX10_on_44 : decode cX10_on 44 = .ok (.imul, 1) := by decide +kernel
theorem dX10_on_45 : decode cX10_on 45 = .ok (.iadd, 1) := by decide +kernel
theorem dX10_on_46 : decode cX10_on 46 = .ok (.istore 4, 2) := by decide +kernel
theorem dX10_on_48 : decode cX10_on 48 = .ok (.aload_n 2, 1) := by decide +kernel
theorem dX10_on_49 : decode cX10_on 49 = .ok (.getfield 157, 3) := by decide +kernel
theorem dX10_on_52 : decode cX10_on 52 = .ok (.iload_n 3, 1) := by decide +kernel
theorem dX10_on_53 : decode cX10_on 53 = .ok (.aload_n 0, 1) := by decide +kernel
theorem dX10_on_54 : decode cX10_on 54 = .ok (.getfield 9, 3) := by decide +kernel
theorem dX10_on_57 : decode cX10_on 57 = .ok (.iload 4, 2) := by decide +kernel
theorem dX10_on_59 : decode cX10_on 59 = .ok (.invokestatic 140, 3) := by decide +kernel
theorem dX10_on_62 : decode cX10_on 62 = .ok (.iconst 1, 1) := by decide +kernel
theorem dX10_on_63 : decode cX10_on 63 = .ok (.isub, 1) := by decide +kernel
theorem dX10_on_64 : decode cX10_on 64 = .ok (.invokestatic 205, 3) := by decide +kernel
theorem dX10_on_67 : decode cX10_on 67 = .ok (.aload_n 2, 1) := by decide +kernel
theorem dX10_on_68 : decode cX10_on 68 = .ok (.getfield 160, 3) := by decide +kernel
theorem dX10_on_71 : decode cX10_on 71 = .ok (.iload_n 3, 1) := by decide +kernel
theorem dX10_on_72 : decode cX10_on 72 = .ok (.aload_n 0, 1) := by decide +kernel
theorem dX10_on_73 : decode cX10_on 73 = .ok (.getfield 9, 3) := by decide +kernel
theorem dX10_on_76 : decode cX10_on 76 = .ok (.iload 4, 2) := by decide +kernel
theorem dX10_on_78 : decode cX10_on 78 = .ok (.iconst 1, 1) := by decide +kernel
theorem dX10_on_79 : decode cX10_on 79 = .ok (.iadd, 1) := by decide +kernel
theorem dX10_on_80 : decode cX10_on 80 = .ok (.invokestatic 140, 3) := by decide +kernel
theorem dX10_on_83 : decode cX10_on 83 = .ok (.invokestatic 205, 3) := by decide +kernel
theorem dX10_on_86 : decode cX10_on 86 = .ok (.aload_n 0, 1) := by decide +kernel
theorem dX10_on_87 : decode cX10_on 87 = .ok (.getfield 19, 3) := by decide +kernel
theorem dX10_on_90 : decode cX10_on 90 = .ok (.getfield 172, 3) := by decide +kernel
theorem dX10_on_93 : decode cX10_on 93 = .ok (.iload_n 3, 1) := by decide +kernel
theorem dX10_on_94 : decode cX10_on 94 = .ok (.aload_n 0, 1) := by decide +kernel
theorem dX10_on_95 : decode cX10_on 95 = .ok (.iload 4, 2) := by decide +kernel
theorem dX10_on_97 : decode cX10_on 97 = .ok (.iconst 2, 1) := by decide +kernel
theorem dX10_on_98 : decode cX10_on 98 = .ok (.iadd, 1) := by decide +kernel
theorem dX10_on_99 : decode cX10_on 99 = .ok (.invokevirtual 313, 3) := by decide +kernel
theorem dX10_on_102 : decode cX10_on 102 = .ok (.invokestatic 205, 3) := by decide +kernel
theorem dX10_on_105 : decode cX10_on 105 = .ok (.iinc 3 1, 3) := by decide +kernel
theorem dX10_on_108 : decode cX10_on 108 = .ok (.goto (-75), 3) := by decide +kernel
theorem dX10_on_111 : decode cX10_on 111 = .ok (.aload_n 0, 1) := by decide +kernel
theorem dX10_on_112 : decode cX10_on 112 = .ok (.getfield 19, 3) := by decide +kernel
theorem dX10_on_115 : decode cX10_on 115 = .ok (.aload_n 0, 1) := by decide +kernel
theorem dX10_on_116 : decode cX10_on 116 = .ok (.iload_n 1, 1) := by decide +kernel
theorem dX10_on_117 : decode cX10_on 117 = .ok (.iconst 3, 1) := by decide +kernel
theorem dX10_on_118 : decode cX10_on 118 = .ok (.isub, 1) := by decide +kernel
theorem dX10_on_119 : decode cX10_on 119 = .ok (.invokevirtual 313, 3) := by decide +kernel
theorem dX10_on_122 : decode cX10_on 122 = .ok (.putfield 123, 3) := by decide +kernel
theorem dX10_on_125 : decode cX10_on 125 = .ok (.aload_n 0, 1) := by decide +kernel
theorem dX10_on_126 : decode cX10_on 126 = .ok (.getfield 19, 3) := by decide +kernel
theorem dX10_on_129 : decode cX10_on 129 = .ok (.invokevirtual 316, 3) := by decide +kernel
theorem dX10_on_132 : decode cX10_on 132 = .ok (.iconst 1, 1) := by decide +kernel
theorem dX10_on_133 : decode cX10_on 133 = .ok (.ireturn, 1) := by decide +kernel
theorem dX10_isImage_0 : decode cX10_isImage 0 = .ok (.aload_n 0, 1) := by decide +kernel
theorem dX10_isImage_1 : decode cX10_isImage 1 = .ok (.getfield 35, 3) := by decide +kernel
theorem dX10_isImage_4 : decode cX10_isImage 4 = .ok (.getfield 84, 3) := by decide +kernel
theorem dX10_isImage_7 : decode cX10_isImage 7 = .ok (.astore_n 2, 1) := by decide +kernel
theorem dX10_isImage_8 : decode cX10_isImage 8 = .ok (.aload_n 2, 1) := by decide +kernel
theorem dX10_isImage_9 : decode cX10_isImage 9 = .ok (.getfield 103, 3) := by decide +kernel
theorem dX10_isImage_12 : decode cX10_isImage 12 = .ok (.getfield 107, 3) := by decide +kernel
theorem dX10_isImage_15 : decode cX10_isImage 15 = .ok (.istore_n 3, 1) := by decide +kernel
theorem dX10_isImage_16 : decode cX10_isImage 16 = .ok (.iload_n 1, 1) := by decide +kernel
theorem dX10_isImage_17 : decode cX10_isImage 17 = .ok (.iconst 4, 1) := by decide +kernel
theorem dX10_isImage_18 : decode cX10_isImage 18 = .ok (.iload_n 3, 1) := by decide +kernel
theorem dX10_isImage_19 : decode cX10_isImage 19 = .ok (.imul, 1) := by decide +kernel
theorem dX10_isImage_20 : decode cX10_isImage 20 = .ok (.iconst 4, 1) := by decide +kernel
theorem dX10_isImage_21 : decode cX10_isImage 21 = .ok (.iadd, 1) := by decide +kernel
theorem dX10_isImage_22 : decode cX10_isImage 22 = .ok (.if_icmp .ne 15, 3) := by decide +kernel
theorem dX10_isImage_25 : decode cX10_isImage 25 = .ok (.aload_n 0, 1) := by decide +kernel
theorem dX10_isImage_26 : decode cX10_isImage 26 = .ok (.getfield 9, 3) := by decide +kernel
theorem dX10_isImage_29 : decode cX10_isImage 29 = .ok (.iconst 0, 1) := by decide +kernel
theorem dX10_isImage_30 : decode cX10_isImage 30 = .ok (.invokestatic 140, 3) := by decide +kernel
theorem dX10_isImage_33 : decode cX10_isImage 33 = .ok (.iload_n 3, 1) := by decide +kernel
theorem dX10_isImage_34 : decode cX10_isImage 34 = .ok (.if_icmp .eq 5, 3) := by decide +kernel
theorem dX10_isImage_37 : decode cX10_isImage 37 = .ok (.iconst 0, 1) := by decide +kernel
theorem dX10_isImage_38 : decode cX10_isImage 38 = .ok (.ireturn, 1) := by decide +kernel
theorem dX10_isImage_39 : decode cX10_isImage 39 = .ok (.iconst 0, 1) := by decide +kernel
theorem dX10_isImage_40 : decode cX10_isImage 40 = .ok (.istore 4, 2) := by decide +kernel
theorem dX10_isImage_42 : decode cX10_isImage 42 = .ok (.iload 4, 2) := by decide +kernel
theorem dX10_isImage_44 : decode cX10_isImage 44 = .ok (.iload_n 3, 1) := by decide +kernel
theorem dX10_isImage_45 : decode cX10_isImage 45 = .ok (.if_icmp .ge 56, 3) := by decide +kernel
theorem dX10_isImage_48 : decode cX10_isImage 48 = .ok (.iconst 1, 1) := by decide +kernel
theorem dX10_isImage_49 : decode cX10_isImage 49 = .ok (.iconst 4, 1) := by decide +kernel
theorem dX10_isImage_50 : decode cX10_isImage 50 = .ok (.iload 4, 2) := by decide +kernel
theorem dX10_isImage_52 : decode cX10_isImage 52 = .ok (.imul, 1) := by decide +kernel
theorem dX10_isImage_53 : decode cX10_isImage 53 = .ok (.iadd, 1) := by decide +kernel
theorem dX10_isImage_54 : decode cX10_isImage 54 = .ok (.istore 5, 2) := by decide +kernel
theorem dX10_isImage_56 : decode cX10_isImage 56 = .ok (.aload_n 0, 1) := by decide +kernel
theorem dX10_isImage_57 : decode cX10_isImage 57 = .ok (.getfield 9, 3) := by decide +kernel
theorem dX10_isImage_60 : decode cX10_isImage 60 = .ok (.iload 5, 2) := by decide +kernel
theorem dX10_isImage_62 : decode cX10_isImage 62 = .ok (.invokestatic 140, 3) := by decide +kernel
theorem dX10_isImage_65 : decode cX10_isImage 65 = .ok (.aload_n 2, 1) := by decide +kernel
theorem dX10_isImage_66 : decode cX10_isImage 66 = .ok (.getfield 96, 3) := by decide +kernel
theorem dX10_isImage_69 : decode cX10_isImage 69 = .ok (.getfield 100, 3) := by decide +kernel
theorem dX10_isImage_72 : decode cX10_isImage 72 = .ok (.if_icmp .gt 21, 3) := by decide +kernel
theorem dX10_isImage_75 : decode cX10_isImage 75 = .ok (.aload_n 0, 1) := by decide +kernel
theorem dX10_isImage_76 : decode cX10_isImage 76 = .ok (.getfield 9, 3) := by decide +kernel
theorem dX10_isImage_79 : decode cX10_isImage 79 = .ok (.iload 5, 2) := by decide +kernel
theorem dX10_isImage_81 : decode cX10_isImage 81 = .ok (.iconst 1, 1) := by decide +kernel
theorem dX10_isImage_82 : decode cX10_isImage 82 = .ok (.iadd, 1) := by decide +kernel
theorem dX10_isImage_83 : decode cX10_isImage 83 = .ok (.invokestatic 140, 3) := by decide +kernel
theorem dX10_isImage_86 : decode cX10_isImage 86 = .ok (.aload_n 2, 1) := by decide +kernel
theorem dX10_isImage_87 : decode cX10_isImage 87 = .ok (.getfield 120, 3) := by decide +kernel
theorem dX10_isImage_90 : decode cX10_isImage 90 = .ok (.if_icmp .le 5, 3) := by decide +kernel
theorem dX10_isImage_93 : decode cX10_isImage 93 = .ok (.iconst 0, 1) := by decide +kernel
theorem dX10_isImage_94 : decode cX10_isImage 94 = .ok (.ireturn, 1) := by decide +kernel
theorem dX10_isImage_95 : decode cX10_isImage 95 = .ok (.iinc 4 1, 3) := by decide +kernel
theorem dX10_isImage_98 : decode cX10_isImage 98 = .ok (.goto (-56), 3) := by decide +kernel
theorem dX10_isImage_101 : decode cX10_isImage 101 = .ok (.aload_n 0, 1) := by decide +kernel
theorem dX10_isImage_102 : decode cX10_isImage 102 = .ok (.iload_n 1, 1) := by decide +kernel
theorem dX10_isImage_103 : decode cX10_isImage 103 = .ok (.iconst 3, 1) := by decide +kernel
theorem dX10_isImage_104 : decode cX10_isImage 104 = .ok (.isub, 1) := by decide +kernel
theorem dX10_isImage_105 : decode cX10_isImage 105 = .ok (.invokevirtual 313, 3) := by decide +kernel
theorem dX10_isImage_108 : decode cX10_isImage 108 = .ok (.sipush 9999, 3) := by decide +kernel
theorem dX10_isImage_111 : decode cX10_isImage 111 = .ok (.if_icmp .gt 30, 3) := by decide +kernel
theorem dX10_isImage_114 : decode cX10_isImage 114 = .ok (.aload_n 0, 1) := by decide +kernel
theorem dX10_isImage_115 : decode cX10_isImage 115 = .ok (.getfield 9, 3) := by decide +kernel
theorem dX10_isImage_118 : decode cX10_isImage 118 = .ok (.iload_n 1, 1) := by decide +kernel
theorem dX10_isImage_119 : decode cX10_isImage 119 = .ok (.iconst 1, 1) := by decide +kernel
theorem dX10_isImage_120 : decode cX10_isImage 120 = .ok (.isub, 1) := by decide +kernel
theorem dX10_isImage_121 : decode cX10_isImage 121 = .ok (.invokestatic 140, 3) := by decide +kernel
theorem dX10_isImage_124 : decode cX10_isImage 124 = .ok (.aload_n 0, 1) := by decide +kernel
theorem dX10_isImage_125 : decode cX10_isImage 125 = .ok (.getfield 9, 3) := by decide +kernel
theorem dX10_isImage_128 : decode cX10_isImage 128 = .ok (.iload_n 1, 1) := by decide +kernel
theorem dX10_isImage_129 : decode cX10_isImage 129 = .ok (.iconst 1, 1) := by decide +kernel
theorem dX10_isImage_130 : decode cX10_isImage 130 = .ok (.isub, 1) := by decide +kernel
theorem dX10_isImage_131 : decode cX10_isImage 131 = .ok (.invokestatic 307, 3) := by decide +kernel
theorem dX10_isImage_134 : decode cX10_isImage 134 = .ok (.if_icmp .ne 7, 3) := by decide +kernel
theorem dX10_isImage_137 : decode cX10_isImage 137 = .ok (.iconst 1, 1) := by decide +kernel
theorem dX10_isImage_138 : decode cX10_isImage 138 = .ok (.goto 4, 3) := by decide +kernel
theorem dX10_isImage_141 : decode cX10_isImage 141 = .ok (.iconst 0, 1) := by decide +kernel
theorem dX10_isImage_142 : decode cX10_isImage 142 = .ok (.ireturn, 1) := by decide +kernel
theorem dX10_twoOfTape_0 : decode cX10_twoOfTape 0 = .ok (.sipush 256, 3) := by decide +kernel
theorem dX10_twoOfTape_3 : decode cX10_twoOfTape 3 = .ok (.aload_n 0, 1) := by decide +kernel
theorem dX10_twoOfTape_4 : decode cX10_twoOfTape 4 = .ok (.getfield 9, 3) := by decide +kernel
theorem dX10_twoOfTape_7 : decode cX10_twoOfTape 7 = .ok (.iload_n 1, 1) := by decide +kernel
theorem dX10_twoOfTape_8 : decode cX10_twoOfTape 8 = .ok (.invokestatic 140, 3) := by decide +kernel
theorem dX10_twoOfTape_11 : decode cX10_twoOfTape 11 = .ok (.imul, 1) := by decide +kernel
theorem dX10_twoOfTape_12 : decode cX10_twoOfTape 12 = .ok (.aload_n 0, 1) := by decide +kernel
theorem dX10_twoOfTape_13 : decode cX10_twoOfTape 13 = .ok (.getfield 9, 3) := by decide +kernel
theorem dX10_twoOfTape_16 : decode cX10_twoOfTape 16 = .ok (.iload_n 1, 1) := by decide +kernel
theorem dX10_twoOfTape_17 : decode cX10_twoOfTape 17 = .ok (.iconst 1, 1) := by decide +kernel
theorem dX10_twoOfTape_18 : decode cX10_twoOfTape 18 = .ok (.iadd, 1) := by decide +kernel
theorem dX10_twoOfTape_19 : decode cX10_twoOfTape 19 = .ok (.invokestatic 140, 3) := by decide +kernel
theorem dX10_twoOfTape_22 : decode cX10_twoOfTape 22 = .ok (.iadd, 1) := by decide +kernel
theorem dX10_twoOfTape_23 : decode cX10_twoOfTape 23 = .ok (.ireturn, 1) := by decide +kernel
theorem dX10_checkOf_0 : decode cX10_checkOf 0 = .ok (.bipush 21, 2) := by decide +kernel
theorem dX10_checkOf_2 : decode cX10_checkOf 2 = .ok (.istore_n 2, 1) := by decide +kernel
theorem dX10_checkOf_3 : decode cX10_checkOf 3 = .ok (.iconst 0, 1) := by decide +kernel
theorem dX10_checkOf_4 : decode cX10_checkOf 4 = .ok (.istore_n 3, 1) := by decide +kernel
theorem dX10_checkOf_5 : decode cX10_checkOf 5 = .ok (.iload_n 3, 1) := by decide +kernel
theorem dX10_checkOf_6 : decode cX10_checkOf 6 = .ok (.iload_n 1, 1) := by decide +kernel
theorem dX10_checkOf_7 : decode cX10_checkOf 7 = .ok (.if_icmp .ge 24, 3) := by decide +kernel
theorem dX10_checkOf_10 : decode cX10_checkOf 10 = .ok (.bipush 7, 2) := by decide +kernel
theorem dX10_checkOf_12 : decode cX10_checkOf 12 = .ok (.iload_n 2, 1) := by decide +kernel
theorem dX10_checkOf_13 : decode cX10_checkOf 13 = .ok (.imul, 1) := by decide +kernel
theorem dX10_checkOf_14 : decode cX10_checkOf 14 = .ok (.aload_n 0, 1) := by decide +kernel
theorem dX10_checkOf_15 : decode cX10_checkOf 15 = .ok (.iload_n 3, 1) := by decide +kernel
theorem dX10_checkOf_16 : decode cX10_checkOf 16 = .ok (.invokestatic 140, 3) := by decide +kernel
theorem dX10_checkOf_19 : decode cX10_checkOf 19 = .ok (.iadd, 1) := by decide +kernel
theorem dX10_checkOf_20 : decode cX10_checkOf 20 = .ok (.sipush 239, 3) := by decide +kernel
theorem dX10_checkOf_23 : decode cX10_checkOf 23 = .ok (.irem, 1) := by decide +kernel
theorem dX10_checkOf_24 : decode cX10_checkOf 24 = .ok (.istore_n 2, 1) := by decide +kernel
theorem dX10_checkOf_25 : decode cX10_checkOf 25 = .ok (.iinc 3 1, 3) := by decide +kernel
theorem dX10_checkOf_28 : decode cX10_checkOf 28 = .ok (.goto (-23), 3) := by decide +kernel
theorem dX10_checkOf_31 : decode cX10_checkOf 31 = .ok (.iload_n 2, 1) := by decide +kernel
theorem dX10_checkOf_32 : decode cX10_checkOf 32 = .ok (.ireturn, 1) := by decide +kernel
theorem dX10_isIn_0 : decode cX10_isIn 0 = .ok (.iload_n 0, 1) := by decide +kernel
theorem dX10_isIn_1 : decode cX10_isIn 1 = .ok (.ifCond .lt 12, 3) := by decide +kernel
theorem dX10_isIn_4 : decode cX10_isIn 4 = .ok (.iload_n 0, 1) := by decide +kernel
theorem dX10_isIn_5 : decode cX10_isIn 5 = .ok (.iload_n 1, 1) := by decide +kernel
theorem dX10_isIn_6 : decode cX10_isIn 6 = .ok (.if_icmp .ge 7, 3) := by decide +kernel
theorem dX10_isIn_9 : decode cX10_isIn 9 = .ok (.iconst 1, 1) := by decide +kernel
theorem dX10_isIn_10 : decode cX10_isIn 10 = .ok (.goto 4, 3) := by decide +kernel
theorem dX10_isIn_13 : decode cX10_isIn 13 = .ok (.iconst 0, 1) := by decide +kernel
theorem dX10_isIn_14 : decode cX10_isIn 14 = .ok (.ireturn, 1) := by decide +kernel
theorem dX10_at_0 : decode cX10_at 0 = .ok (.iload_n 1, 1) := by decide +kernel
theorem dX10_at_1 : decode cX10_at 1 = .ok (.ifCond .lt 15, 3) := by decide +kernel
theorem dX10_at_4 : decode cX10_at 4 = .ok (.iload_n 1, 1) := by decide +kernel
theorem dX10_at_5 : decode cX10_at 5 = .ok (.aload_n 0, 1) := by decide +kernel
theorem dX10_at_6 : decode cX10_at 6 = .ok (.arraylength, 1) := by decide +kernel
theorem dX10_at_7 : decode cX10_at 7 = .ok (.if_icmp .ge 9, 3) := by decide +kernel
theorem dX10_at_10 : decode cX10_at 10 = .ok (.aload_n 0, 1) := by decide +kernel
theorem dX10_at_11 : decode cX10_at 11 = .ok (.iload_n 1, 1) := by decide +kernel
theorem dX10_at_12 : decode cX10_at 12 = .ok (.iaload, 1) := by decide +kernel
theorem dX10_at_13 : decode cX10_at 13 = .ok (.goto 4, 3) := by decide +kernel
theorem dX10_at_16 : decode cX10_at 16 = .ok (.iconst 0, 1) := by decide +kernel
theorem dX10_at_17 : decode cX10_at 17 = .ok (.ireturn, 1) := by decide +kernel
theorem dX10_set_0 : decode cX10_set 0 = .ok (.iload_n 1, 1) := by decide +kernel
theorem dX10_set_1 : decode cX10_set 1 = .ok (.ifCond .lt 13, 3) := by decide +kernel
theorem dX10_set_4 : decode cX10_set 4 = .ok (.iload_n 1, 1) := by decide +kernel
theorem dX10_set_5 : decode cX10_set 5 = .ok (.aload_n 0, 1) := by decide +kernel
theorem dX10_set_6 : decode cX10_set 6 = .ok (.arraylength, 1) := by decide +kernel
theorem dX10_set_7 : decode cX10_set 7 = .ok (.if_icmp .ge 7, 3) := by decide +kernel
theorem dX10_set_10 : decode cX10_set 10 = .ok (.aload_n 0, 1) := by decide +kernel
theorem dX10_set_11 : decode cX10_set 11 = .ok (.iload_n 1, 1) := by decide +kernel
theorem dX10_set_12 : decode cX10_set 12 = .ok (.iload_n 2, 1) := by decide +kernel
theorem dX10_set_13 : decode cX10_set 13 = .ok (.iastore, 1) := by decide +kernel
theorem dX10_set_14 : decode cX10_set 14 = .ok (.return_, 1) := by decide +kernel
theorem dX10_letterOf_0 : decode cX10_letterOf 0 = .ok (.iload_n 0, 1) := by decide +kernel
theorem dX10_letterOf_1 : decode cX10_letterOf 1 = .ok (.istore_n 2, 1) := by decide +kernel
theorem dX10_letterOf_2 : decode cX10_letterOf 2 = .ok (.iconst 5, 1) := by decide +kernel
theorem dX10_letterOf_3 : decode cX10_letterOf 3 = .ok (.istore_n 3, 1) := by decide +kernel
theorem dX10_letterOf_4 : decode cX10_letterOf 4 = .ok (.iload_n 3, 1) := by decide +kernel
theorem dX10_letterOf_5 : decode cX10_letterOf 5 = .ok (.iload_n 1, 1) := by decide +kernel
theorem dX10_letterOf_6 : decode cX10_letterOf 6 = .ok (.if_icmp .le 14, 3) := by decide +kernel
theorem dX10_letterOf_9 : decode cX10_letterOf 9 = .ok (.iload_n 2, 1) := by decide +kernel
theorem dX10_letterOf_10 : decode cX10_letterOf 10 = .ok (.bipush 27, 2) := by decide +kernel
theorem dX10_letterOf_12 : decode cX10_letterOf 12 = .ok (.idiv, 1) := by decide +kernel
theorem dX10_letterOf_13 : decode cX10_letterOf 13 = .ok (.istore_n 2, 1) := by decide +kernel
theorem dX10_letterOf_14 : decode cX10_letterOf 14 = .ok (.iinc 3 (-1), 3) := by decide +kernel
theorem dX10_letterOf_17 : decode cX10_letterOf 17 = .ok (.goto (-13), 3) := by decide +kernel
theorem dX10_letterOf_20 : decode cX10_letterOf 20 = .ok (.iload_n 2, 1) := by decide +kernel
theorem dX10_letterOf_21 : decode cX10_letterOf 21 = .ok (.bipush 27, 2) := by decide +kernel
theorem dX10_letterOf_23 : decode cX10_letterOf 23 = .ok (.irem, 1) := by decide +kernel
theorem dX10_letterOf_24 : decode cX10_letterOf 24 = .ok (.ireturn, 1) := by decide +kernel
theorem dX10_slipOf_0 : decode cX10_slipOf 0 = .ok (.iload_n 0, 1) := by decide +kernel
theorem dX10_slipOf_1 : decode cX10_slipOf 1 = .ok (.bipush 100, 2) := by decide +kernel
theorem dX10_slipOf_3 : decode cX10_slipOf 3 = .ok (.iload_n 1, 1) := by decide +kernel
theorem dX10_slipOf_4 : decode cX10_slipOf 4 = .ok (.isub, 1) := by decide +kernel
theorem dX10_slipOf_5 : decode cX10_slipOf 5 = .ok (.imul, 1) := by decide +kernel
theorem dX10_slipOf_6 : decode cX10_slipOf 6 = .ok (.bipush 100, 2) := by decide +kernel
theorem dX10_slipOf_8 : decode cX10_slipOf 8 = .ok (.idiv, 1) := by decide +kernel
theorem dX10_slipOf_9 : decode cX10_slipOf 9 = .ok (.ireturn, 1) := by decide +kernel
theorem dX10_spreadOf_0 : decode cX10_spreadOf 0 = .ok (.iload_n 1, 1) := by decide +kernel
theorem dX10_spreadOf_1 : decode cX10_spreadOf 1 = .ok (.iconst 1, 1) := by decide +kernel
theorem dX10_spreadOf_2 : decode cX10_spreadOf 2 = .ok (.if_icmp .ge 5, 3) := by decide +kernel
theorem dX10_spreadOf_5 : decode cX10_spreadOf 5 = .ok (.iconst 0, 1) := by decide +kernel
theorem dX10_spreadOf_6 : decode cX10_spreadOf 6 = .ok (.ireturn, 1) := by decide +kernel
theorem dX10_spreadOf_7 : decode cX10_spreadOf 7 = .ok (.iconst 0, 1) := by decide +kernel
theorem dX10_spreadOf_8 : decode cX10_spreadOf 8 = .ok (.istore_n 3, 1) := by decide +kernel
theorem dX10_spreadOf_9 : decode cX10_spreadOf 9 = .ok (.iconst 0, 1) := by decide +kernel
theorem dX10_spreadOf_10 : decode cX10_spreadOf 10 = .ok (.istore 4, 2) := by decide +kernel
theorem dX10_spreadOf_12 : decode cX10_spreadOf 12 = .ok (.iload 4, 2) := by decide +kernel
theorem dX10_spreadOf_14 : decode cX10_spreadOf 14 = .ok (.iload_n 1, 1) := by decide +kernel
theorem dX10_spreadOf_15 : decode cX10_spreadOf 15 = .ok (.if_icmp .ge 30, 3) := by decide +kernel
theorem dX10_spreadOf_18 : decode cX10_spreadOf 18 = .ok (.iload 4, 2) := by decide +kernel
theorem dX10_spreadOf_20 : decode cX10_spreadOf 20 = .ok (.aload_n 0, 1) := by decide +kernel
theorem dX10_spreadOf_21 : decode cX10_spreadOf 21 = .ok (.arraylength, 1) := by decide +kernel
theorem dX10_spreadOf_22 : decode cX10_spreadOf 22 = .ok (.if_icmp .ge 23, 3) := by decide +kernel
theorem dX10_spreadOf_25 : decode cX10_spreadOf 25 = .ok (.iload_n 3, 1) := by decide +kernel
theorem dX10_spreadOf_26 : decode cX10_spreadOf 26 = .ok (.iload_n 1, 1) := by decide +kernel
theorem dX10_spreadOf_27 : decode cX10_spreadOf 27 = .ok (.aload_n 0, 1) := by decide +kernel
theorem dX10_spreadOf_28 : decode cX10_spreadOf 28 = .ok (.iload 4, 2) := by decide +kernel
theorem dX10_spreadOf_30 : decode cX10_spreadOf 30 = .ok (.iaload, 1) := by decide +kernel
theorem dX10_spreadOf_31 : decode cX10_spreadOf 31 = .ok (.imul, 1) := by decide +kernel
theorem dX10_spreadOf_32 : decode cX10_spreadOf 32 = .ok (.iload_n 2, 1) := by decide +kernel
theorem dX10_spreadOf_33 : decode cX10_spreadOf 33 = .ok (.isub, 1) := by decide +kernel
theorem dX10_spreadOf_34 : decode cX10_spreadOf 34 = .ok (.invokestatic 319, 3) := by decide +kernel
theorem dX10_spreadOf_37 : decode cX10_spreadOf 37 = .ok (.iadd, 1) := by decide +kernel
theorem dX10_spreadOf_38 : decode cX10_spreadOf 38 = .ok (.istore_n 3, 1) := by decide +kernel
theorem dX10_spreadOf_39 : decode cX10_spreadOf 39 = .ok (.iinc 4 1, 3) := by decide +kernel
theorem dX10_spreadOf_42 : decode cX10_spreadOf 42 = .ok (.goto (-30), 3) := by decide +kernel
theorem dX10_spreadOf_45 : decode cX10_spreadOf 45 = .ok (.bipush 100, 2) := by decide +kernel
theorem dX10_spreadOf_47 : decode cX10_spreadOf 47 = .ok (.iload_n 3, 1) := by decide +kernel
theorem dX10_spreadOf_48 : decode cX10_spreadOf 48 = .ok (.imul, 1) := by decide +kernel
theorem dX10_spreadOf_49 : decode cX10_spreadOf 49 = .ok (.iload_n 1, 1) := by decide +kernel
theorem dX10_spreadOf_50 : decode cX10_spreadOf 50 = .ok (.iload_n 1, 1) := by decide +kernel
theorem dX10_spreadOf_51 : decode cX10_spreadOf 51 = .ok (.imul, 1) := by decide +kernel
theorem dX10_spreadOf_52 : decode cX10_spreadOf 52 = .ok (.idiv, 1) := by decide +kernel
theorem dX10_spreadOf_53 : decode cX10_spreadOf 53 = .ok (.ireturn, 1) := by decide +kernel
theorem dX10_indexOf_0 : decode cX10_indexOf 0 = .ok (.iconst 0, 1) := by decide +kernel
theorem dX10_indexOf_1 : decode cX10_indexOf 1 = .ok (.istore_n 3, 1) := by decide +kernel
theorem dX10_indexOf_2 : decode cX10_indexOf 2 = .ok (.iload_n 3, 1) := by decide +kernel
theorem dX10_indexOf_3 : decode cX10_indexOf 3 = .ok (.iload_n 1, 1) := by decide +kernel
theorem dX10_indexOf_4 : decode cX10_indexOf 4 = .ok (.if_icmp .ge 24, 3) := by decide +kernel
theorem dX10_indexOf_7 : decode cX10_indexOf 7 = .ok (.iload_n 3, 1) := by decide +kernel
theorem dX10_indexOf_8 : decode cX10_indexOf 8 = .ok (.aload_n 0, 1) := by decide +kernel
theorem dX10_indexOf_9 : decode cX10_indexOf 9 = .ok (.arraylength, 1) := by decide +kernel
theorem dX10_indexOf_10 : decode cX10_indexOf 10 = .ok (.if_icmp .ge 18, 3) := by decide +kernel
theorem dX10_indexOf_13 : decode cX10_indexOf 13 = .ok (.aload_n 0, 1) := by decide +kernel
theorem dX10_indexOf_14 : decode cX10_indexOf 14 = .ok (.iload_n 3, 1) := by decide +kernel
theorem dX10_indexOf_15 : decode cX10_indexOf 15 = .ok (.iaload, 1) := by decide +kernel
theorem dX10_indexOf_16 : decode cX10_indexOf 16 = .ok (.iload_n 2, 1) := by decide +kernel
theorem dX10_indexOf_17 : decode cX10_indexOf 17 = .ok (.if_icmp .ne 5, 3) := by decide +kernel
theorem dX10_indexOf_20 : decode cX10_indexOf 20 = .ok (.iload_n 3, 1) := by decide +kernel
theorem dX10_indexOf_21 : decode cX10_indexOf 21 = .ok (.ireturn, 1) := by decide +kernel
theorem dX10_indexOf_22 : decode cX10_indexOf 22 = .ok (.iinc 3 1, 3) := by decide +kernel
theorem dX10_indexOf_25 : decode cX10_indexOf 25 = .ok (.goto (-23), 3) := by decide +kernel
theorem dX10_indexOf_28 : decode cX10_indexOf 28 = .ok (.iconst (-1), 1) := by decide +kernel
theorem dX10_indexOf_29 : decode cX10_indexOf 29 = .ok (.ireturn, 1) := by decide +kernel
theorem dX11_init_0 : decode cX11_init 0 = .ok (.aload_n 0, 1) := by decide +kernel
theorem dX11_init_1 : decode cX11_init 1 = .ok (.invokespecial 1, 3) := by decide +kernel
theorem dX11_init_4 : decode cX11_init 4 = .ok (.aload_n 0, 1) := by decide +kernel
theorem dX11_init_5 : decode cX11_init 5 = .ok (.sipush 1600, 3) := by decide +kernel
theorem dX11_init_8 : decode cX11_init 8 = .ok (.newarray .int, 2) := by decide +kernel
theorem dX11_init_10 : decode cX11_init 10 = .ok (.putfield 7, 3) := by decide +kernel
theorem dX11_init_13 : decode cX11_init 13 = .ok (.aload_n 0, 1) := by decide +kernel
theorem dX11_init_14 : decode cX11_init 14 = .ok (.iconst (-1), 1) := by decide +kernel
theorem dX11_init_15 : decode cX11_init 15 = .ok (.putfield 13, 3) := by decide +kernel
theorem dX11_init_18 : decode cX11_init 18 = .ok (.aload_n 0, 1) := by decide +kernel
theorem dX11_init_19 : decode cX11_init 19 = .ok (.iconst 5, 1) := by decide +kernel
theorem dX11_init_20 : decode cX11_init 20 = .ok (.newarray .char, 2) := by decide +kernel
theorem dX11_init_22 : decode cX11_init 22 = .ok (.dup, 1) := by decide +kernel
theorem dX11_init_23 : decode cX11_init 23 = .ok (.iconst 0, 1) := by decide +kernel
theorem dX11_init_24 : decode cX11_init 24 = .ok (.bipush 104, 2) := by decide +kernel
theorem dX11_init_26 : decode cX11_init 26 = .ok (.castore, 1) := by decide +kernel
theorem dX11_init_27 : decode cX11_init 27 = .ok (.dup, 1) := by decide +kernel
theorem dX11_init_28 : decode cX11_init 28 = .ok (.iconst 1, 1) := by decide +kernel
theorem dX11_init_29 : decode cX11_init 29 = .ok (.bipush 111, 2) := by decide +kernel
theorem dX11_init_31 : decode cX11_init 31 = .ok (.castore, 1) := by decide +kernel
theorem dX11_init_32 : decode cX11_init 32 = .ok (.dup, 1) := by decide +kernel
theorem dX11_init_33 : decode cX11_init 33 = .ok (.iconst 2, 1) := by decide +kernel
theorem dX11_init_34 : decode cX11_init 34 = .ok (.bipush 117, 2) := by decide +kernel
theorem dX11_init_36 : decode cX11_init 36 = .ok (.castore, 1) := by decide +kernel
theorem dX11_init_37 : decode cX11_init 37 = .ok (.dup, 1) := by decide +kernel
theorem dX11_init_38 : decode cX11_init 38 = .ok (.iconst 3, 1) := by decide +kernel
theorem dX11_init_39 : decode cX11_init 39 = .ok (.bipush 114, 2) := by decide +kernel
theorem dX11_init_41 : decode cX11_init 41 = .ok (.castore, 1) := by decide +kernel
theorem dX11_init_42 : decode cX11_init 42 = .ok (.dup, 1) := by decide +kernel
theorem dX11_init_43 : decode cX11_init 43 = .ok (.iconst 4, 1) := by decide +kernel
theorem dX11_init_44 : decode cX11_init 44 = .ok (.bipush 115, 2) := by decide +kernel
theorem dX11_init_46 : decode cX11_init 46 = .ok (.castore, 1) := by decide +kernel
theorem dX11_init_47 : decode cX11_init 47 = .ok (.putfield 17, 3) := by decide +kernel
theorem dX11_init_50 : decode cX11_init 50 = .ok (.aload_n 0, 1) := by decide +kernel
theorem dX11_init_51 : decode cX11_init 51 = .ok (.iconst 4, 1) := by decide +kernel
theorem dX11_init_52 : decode cX11_init 52 = .ok (.newarray .char, 2) := by decide +kernel
theorem dX11_init_54 : decode cX11_init 54 = .ok (.dup, 1) := by decide +kernel
theorem dX11_init_55 : decode cX11_init 55 = .ok (.iconst 0, 1) := by decide +kernel
theorem dX11_init_56 : decode cX11_init 56 = .ok (.bipush 115, 2) := by decide +kernel
theorem dX11_init_58 : decode cX11_init 58 = .ok (.castore, 1) := by decide +kernel
theorem dX11_init_59 : decode cX11_init 59 = .ok (.dup, 1) := by decide +kernel
theorem dX11_init_60 : decode cX11_init 60 = .ok (.iconst 1, 1) := by decide +kernel
theorem dX11_init_61 : decode cX11_init 61 = .ok (.bipush 111, 2) := by decide +kernel
theorem dX11_init_63 : decode cX11_init 63 = .ok (.castore, 1) := by decide +kernel
theorem dX11_init_64 : decode cX11_init 64 = .ok (.dup, 1) := by decide +kernel
theorem dX11_init_65 : decode cX11_init 65 = .ok (.iconst 2, 1) := by decide +kernel
theorem dX11_init_66 : decode cX11_init 66 = .ok (.bipush 114, 2) := by decide +kernel
theorem dX11_init_68 : decode cX11_init 68 = .ok (.castore, 1) := by decide +kernel
theorem dX11_init_69 : decode cX11_init 69 = .ok (.dup, 1) := by decide +kernel
theorem dX11_init_70 : decode cX11_init 70 = .ok (.iconst 3, 1) := by decide +kernel
theorem dX11_init_71 : decode cX11_init 71 = .ok (.bipush 116, 2) := by decide +kernel
theorem dX11_init_73 : decode cX11_init 73 = .ok (.castore, 1) := by decide +kernel
theorem dX11_init_74 : decode cX11_init 74 = .ok (.putfield 21, 3) := by decide +kernel
theorem dX11_init_77 : decode cX11_init 77 = .ok (.aload_n 0, 1) := by decide +kernel
theorem dX11_init_78 : decode cX11_init 78 = .ok (.bipush 6, 2) := by decide +kernel
theorem dX11_init_80 : decode cX11_init 80 = .ok (.newarray .char, 2) := by decide +kernel
theorem dX11_init_82 : decode cX11_init 82 = .ok (.dup, 1) := by decide +kernel
theorem dX11_init_83 : decode cX11_init 83 = .ok (.iconst 0, 1) := by decide +kernel
theorem dX11_init_84 : decode cX11_init 84 = .ok (.bipush 98, 2) := by decide +kernel
theorem dX11_init_86 : decode cX11_init 86 = .ok (.castore, 1) := by decide +kernel
theorem dX11_init_87 : decode cX11_init 87 = .ok (.dup, 1) := by decide +kernel
theorem dX11_init_88 : decode cX11_init 88 = .ok (.iconst 1, 1) := by decide +kernel
theorem dX11_init_89 : decode cX11_init 89 = .ok (.bipush 114, 2) := by decide +kernel
theorem dX11_init_91 : decode cX11_init 91 = .ok (.castore, 1) := by decide +kernel
theorem dX11_init_92 : decode cX11_init 92 = .ok (.dup, 1) := by decide +kernel
theorem dX11_init_93 : decode cX11_init 93 = .ok (.iconst 2, 1) := by decide +kernel
theorem dX11_init_94 : decode cX11_init 94 = .ok (.bipush 105, 2) := by decide +kernel
theorem dX11_init_96 : decode cX11_init 96 = .ok (.castore, 1) := by decide +kernel
theorem dX11_init_97 : decode cX11_init 97 = .ok (.dup, 1) := by decide +kernel
theorem dX11_init_98 : decode cX11_init 98 = .ok (.iconst 3, 1) := by decide +kernel
theorem dX11_init_99 : decode cX11_init 99 = .ok (.bipush 110, 2) := by decide +kernel
theorem dX11_init_101 : decode cX11_init 101 = .ok (.castore, 1) := by decide +kernel
theorem dX11_init_102 : decode cX11_init 102 = .ok (.dup, 1) := by decide +kernel
theorem dX11_init_103 : decode cX11_init 103 = .ok (.iconst 4, 1) := by decide +kernel
theorem dX11_init_104 : decode cX11_init 104 = .ok (.bipush 103, 2) := by decide +kernel
theorem dX11_init_106 : decode cX11_init 106 = .ok (.castore, 1) := by decide +kernel
theorem dX11_init_107 : decode cX11_init 107 = .ok (.dup, 1) := by decide +kernel
theorem dX11_init_108 : decode cX11_init 108 = .ok (.iconst 5, 1) := by decide +kernel
theorem dX11_init_109 : decode cX11_init 109 = .ok (.bipush 115, 2) := by decide +kernel
theorem dX11_init_111 : decode cX11_init 111 = .ok (.castore, 1) := by decide +kernel
theorem dX11_init_112 : decode cX11_init 112 = .ok (.putfield 24, 3) := by decide +kernel
theorem dX11_init_115 : decode cX11_init 115 = .ok (.aload_n 0, 1) := by decide +kernel
theorem dX11_init_116 : decode cX11_init 116 = .ok (.iconst 5, 1) := by decide +kernel
theorem dX11_init_117 : decode cX11_init 117 = .ok (.newarray .char, 2) := by decide +kernel
theorem dX11_init_119 : decode cX11_init 119 = .ok (.dup, 1) := by decide +kernel
theorem dX11_init_120 : decode cX11_init 120 = .ok (.iconst 0, 1) := by decide +kernel
theorem dX11_init_121 : decode cX11_init 121 = .ok (.bipush 116, 2) := by decide +kernel
theorem dX11_init_123 : decode cX11_init 123 = .ok (.castore, 1) := by decide +kernel
theorem dX11_init_124 : decode cX11_init 124 = .ok (.dup, 1) := by decide +kernel
theorem dX11_init_125 : decode cX11_init 125 = .ok (.iconst 1, 1) := by decide +kernel
theorem dX11_init_126 : decode cX11_init 126 = .ok (.bipush 105, 2) := by decide +kernel
theorem dX11_init_128 : decode cX11_init 128 = .ok (.castore, 1) := by decide +kernel
theorem dX11_init_129 : decode cX11_init 129 = .ok (.dup, 1) := by decide +kernel
theorem dX11_init_130 : decode cX11_init 130 = .ok (.iconst 2, 1) := by decide +kernel
theorem dX11_init_131 : decode cX11_init 131 = .ok (.bipush 114, 2) := by decide +kernel
theorem dX11_init_133 : decode cX11_init 133 = .ok (.castore, 1) := by decide +kernel
theorem dX11_init_134 : decode cX11_init 134 = .ok (.dup, 1) := by decide +kernel
theorem dX11_init_135 : decode cX11_init 135 = .ok (.iconst 3, 1) := by decide +kernel
theorem dX11_init_136 : decode cX11_init 136 = .ok (.bipush 101, 2) := by decide +kernel
theorem dX11_init_138 : decode cX11_init 138 = .ok (.castore, 1) := by decide +kernel
theorem dX11_init_139 : decode cX11_init 139 = .ok (.dup, 1) := by decide +kernel
theorem dX11_init_140 : decode cX11_init 140 = .ok (.iconst 4, 1) := by decide +kernel
theorem dX11_init_141 : decode cX11_init 141 = .ok (.bipush 115, 2) := by decide +kernel
theorem dX11_init_143 : decode cX11_init 143 = .ok (.castore, 1) := by decide +kernel
theorem dX11_init_144 : decode cX11_init 144 = .ok (.putfield 27, 3) := by decide +kernel
theorem dX11_init_147 : decode cX11_init 147 = .ok (.aload_n 0, 1) := by decide +kernel
theorem dX11_init_148 : decode cX11_init 148 = .ok (.iconst 4, 1) := by decide +kernel
theorem dX11_init_149 : decode cX11_init 149 = .ok (.newarray .char, 2) := by decide +kernel
theorem dX11_init_151 : decode cX11_init 151 = .ok (.dup, 1) := by decide +kernel
theorem dX11_init_152 : decode cX11_init 152 = .ok (.iconst 0, 1) := by decide +kernel
theorem dX11_init_153 : decode cX11_init 153 = .ok (.bipush 109, 2) := by decide +kernel
theorem dX11_init_155 : decode cX11_init 155 = .ok (.castore, 1) := by decide +kernel
theorem dX11_init_156 : decode cX11_init 156 = .ok (.dup, 1) := by decide +kernel
theorem dX11_init_157 : decode cX11_init 157 = .ok (.iconst 1, 1) := by decide +kernel
theorem dX11_init_158 : decode cX11_init 158 = .ok (.bipush 105, 2) := by decide +kernel
theorem dX11_init_160 : decode cX11_init 160 = .ok (.castore, 1) := by decide +kernel
theorem dX11_init_161 : decode cX11_init 161 = .ok (.dup, 1) := by decide +kernel
theorem dX11_init_162 : decode cX11_init 162 = .ok (.iconst 2, 1) := by decide +kernel
theorem dX11_init_163 : decode cX11_init 163 = .ok (.bipush 110, 2) := by decide +kernel
theorem dX11_init_165 : decode cX11_init 165 = .ok (.castore, 1) := by decide +kernel
theorem dX11_init_166 : decode cX11_init 166 = .ok (.dup, 1) := by decide +kernel
theorem dX11_init_167 : decode cX11_init 167 = .ok (.iconst 3, 1) := by decide +kernel
theorem dX11_init_168 : decode cX11_init 168 = .ok (.bipush 100, 2) := by decide +kernel
theorem dX11_init_170 : decode cX11_init 170 = .ok (.castore, 1) := by decide +kernel
theorem dX11_init_171 : decode cX11_init 171 = .ok (.putfield 30, 3) := by decide +kernel
theorem dX11_init_174 : decode cX11_init 174 = .ok (.aload_n 0, 1) := by decide +kernel
theorem dX11_init_175 : decode cX11_init 175 = .ok (.iconst 5, 1) := by decide +kernel
theorem dX11_init_176 : decode cX11_init 176 = .ok (.newarray .char, 2) := by decide +kernel
theorem dX11_init_178 : decode cX11_init 178 = .ok (.dup, 1) := by decide +kernel
theorem dX11_init_179 : decode cX11_init 179 = .ok (.iconst 0, 1) := by decide +kernel
theorem dX11_init_180 : decode cX11_init 180 = .ok (.bipush 112, 2) := by decide +kernel
theorem dX11_init_182 : decode cX11_init 182 = .ok (.castore, 1) := by decide +kernel
theorem dX11_init_183 : decode cX11_init 183 = .ok (.dup, 1) := by decide +kernel
theorem dX11_init_184 : decode cX11_init 184 = .ok (.iconst 1, 1) := by decide +kernel
theorem dX11_init_185 : decode cX11_init 185 = .ok (.bipush 114, 2) := by decide +kernel
theorem dX11_init_187 : decode cX11_init 187 = .ok (.castore, 1) := by decide +kernel
theorem dX11_init_188 : decode cX11_init 188 = .ok (.dup, 1) := by decide +kernel
theorem dX11_init_189 : decode cX11_init 189 = .ok (.iconst 2, 1) := by decide +kernel
theorem dX11_init_190 : decode cX11_init 190 = .ok (.bipush 105, 2) := by decide +kernel
theorem dX11_init_192 : decode cX11_init 192 = .ok (.castore, 1) := by decide +kernel
theorem dX11_init_193 : decode cX11_init 193 = .ok (.dup, 1) := by decide +kernel
theorem dX11_init_194 : decode cX11_init 194 = .ok (.iconst 3, 1) := by decide +kernel
theorem dX11_init_195 : decode cX11_init 195 = .ok (.bipush 100, 2) := by decide +kernel
theorem dX11_init_197 : decode cX11_init 197 = .ok (.castore, 1) := by decide +kernel
theorem dX11_init_198 : decode cX11_init 198 = .ok (.dup, 1) := by decide +kernel
theorem dX11_init_199 : decode cX11_init 199 = .ok (.iconst 4, 1) := by decide +kernel
theorem dX11_init_200 : decode cX11_init 200 = .ok (.bipush 101, 2) := by decide +kernel
theorem dX11_init_202 : decode cX11_init 202 = .ok (.castore, 1) := by decide +kernel
theorem dX11_init_203 : decode cX11_init 203 = .ok (.putfield 33, 3) := by decide +kernel
theorem dX11_init_206 : decode cX11_init 206 = .ok (.aload_n 0, 1) := by decide +kernel
theorem dX11_init_207 : decode cX11_init 207 = .ok (.iconst 4, 1) := by decide +kernel
theorem dX11_init_208 : decode cX11_init 208 = .ok (.newarray .char, 2) := by decide +kernel
theorem dX11_init_210 : decode cX11_init 210 = .ok (.dup, 1) := by decide +kernel
theorem dX11_init_211 : decode cX11_init 211 = .ok (.iconst 0, 1) := by decide +kernel
theorem dX11_init_212 : decode cX11_init 212 = .ok (.bipush 110, 2) := by decide +kernel
theorem dX11_init_214 : decode cX11_init 214 = .ok (.castore, 1) := by decide +kernel
theorem dX11_init_215 : decode cX11_init 215 = .ok (.dup, 1) := by decide +kernel
theorem dX11_init_216 : decode cX11_init 216 = .ok (.iconst 1, 1) := by decide +kernel
theorem dX11_init_217 : decode cX11_init 217 = .ok (.bipush 101, 2) := by decide +kernel
theorem dX11_init_219 : decode cX11_init 219 = .ok (.castore, 1) := by decide +kernel
theorem dX11_init_220 : decode cX11_init 220 = .ok (.dup, 1) := by decide +kernel
theorem dX11_init_221 : decode cX11_init 221 = .ok (.iconst 2, 1) := by decide +kernel
theorem dX11_init_222 : decode cX11_init 222 = .ok (.bipush 101, 2) := by decide +kernel
theorem dX11_init_224 : decode cX11_init 224 = .ok (.castore, 1) := by decide +kernel
theorem dX11_init_225 : decode cX11_init 225 = .ok (.dup, 1) := by decide +kernel
theorem dX11_init_226 : decode cX11_init 226 = .ok (.iconst 3, 1) := by decide +kernel
theorem dX11_init_227 : decode cX11_init 227 = .ok (.bipush 100, 2) := by decide +kernel
theorem dX11_init_229 : decode cX11_init 229 = .ok (.castore, 1) := by decide +kernel
theorem dX11_init_230 : decode cX11_init 230 = .ok (.putfield 36, 3) := by decide +kernel
theorem dX11_init_233 : decode cX11_init 233 = .ok (.aload_n 0, 1) := by decide +kernel
theorem dX11_init_234 : decode cX11_init 234 = .ok (.iconst 3, 1) := by decide +kernel
theorem dX11_init_235 : decode cX11_init 235 = .ok (.newarray .char, 2) := by decide +kernel
theorem dX11_init_237 : decode cX11_init 237 = .ok (.dup, 1) := by decide +kernel
theorem dX11_init_238 : decode cX11_init 238 = .ok (.iconst 0, 1) := by decide +kernel
theorem dX11_init_239 : decode cX11_init 239 = .ok (.bipush 104, 2) := by decide +kernel
theorem dX11_init_241 : decode cX11_init 241 = .ok (.castore, 1) := by decide +kernel
theorem dX11_init_242 : decode cX11_init 242 = .ok (.dup, 1) := by decide +kernel
theorem dX11_init_243 : decode cX11_init 243 = .ok (.iconst 1, 1) := by decide +kernel
theorem dX11_init_244 : decode cX11_init 244 = .ok (.bipush 97, 2) := by decide +kernel
theorem dX11_init_246 : decode cX11_init 246 = .ok (.castore, 1) := by decide +kernel
theorem dX11_init_247 : decode cX11_init 247 = .ok (.dup, 1) := by decide +kernel
theorem dX11_init_248 : decode cX11_init 248 = .ok (.iconst 2, 1) := by decide +kernel
theorem dX11_init_249 : decode cX11_init 249 = .ok (.bipush 116, 2) := by decide +kernel
theorem dX11_init_251 : decode cX11_init 251 = .ok (.castore, 1) := by decide +kernel
theorem dX11_init_252 : decode cX11_init 252 = .ok (.putfield 39, 3) := by decide +kernel
theorem dX11_init_255 : decode cX11_init 255 = .ok (.aload_n 0, 1) := by decide +kernel
theorem dX11_init_256 : decode cX11_init 256 = .ok (.iconst 5, 1) := by decide +kernel
theorem dX11_init_257 : decode cX11_init 257 = .ok (.newarray .char, 2) := by decide +kernel
theorem dX11_init_259 : decode cX11_init 259 = .ok (.dup, 1) := by decide +kernel
theorem dX11_init_260 : decode cX11_init 260 = .ok (.iconst 0, 1) := by decide +kernel
theorem dX11_init_261 : decode cX11_init 261 = .ok (.bipush 107, 2) := by decide +kernel
theorem dX11_init_263 : decode cX11_init 263 = .ok (.castore, 1) := by decide +kernel
theorem dX11_init_264 : decode cX11_init 264 = .ok (.dup, 1) := by decide +kernel
theorem dX11_init_265 : decode cX11_init 265 = .ok (.iconst 1, 1) := by decide +kernel
theorem dX11_init_266 : decode cX11_init 266 = .ok (.bipush 101, 2) := by decide +kernel
theorem dX11_init_268 : decode cX11_init 268 = .ok (.castore, 1) := by decide +kernel
theorem dX11_init_269 : decode cX11_init 269 = .ok (.dup, 1) := by decide +kernel
theorem dX11_init_270 : decode cX11_init 270 = .ok (.iconst 2, 1) := by decide +kernel
theorem dX11_init_271 : decode cX11_init 271 = .ok (.bipush 101, 2) := by decide +kernel
theorem dX11_init_273 : decode cX11_init 273 = .ok (.castore, 1) := by decide +kernel
theorem dX11_init_274 : decode cX11_init 274 = .ok (.dup, 1) := by decide +kernel
theorem dX11_init_275 : decode cX11_init 275 = .ok (.iconst 3, 1) := by decide +kernel
theorem dX11_init_276 : decode cX11_init 276 = .ok (.bipush 112, 2) := by decide +kernel
theorem dX11_init_278 : decode cX11_init 278 = .ok (.castore, 1) := by decide +kernel
theorem dX11_init_279 : decode cX11_init 279 = .ok (.dup, 1) := by decide +kernel
theorem dX11_init_280 : decode cX11_init 280 = .ok (.iconst 4, 1) := by decide +kernel
theorem dX11_init_281 : decode cX11_init 281 = .ok (.bipush 115, 2) := by decide +kernel
theorem dX11_init_283 : decode cX11_init 283 = .ok (.castore, 1) := by decide +kernel
theorem dX11_init_284 : decode cX11_init 284 = .ok (.putfield 42, 3) := by decide +kernel
theorem dX11_init_287 : decode cX11_init 287 = .ok (.aload_n 0, 1) := by decide +kernel
theorem dX11_init_288 : decode cX11_init 288 = .ok (.iconst 5, 1) := by decide +kernel
theorem dX11_init_289 : decode cX11_init 289 = .ok (.newarray .char, 2) := by decide +kernel
theorem dX11_init_291 : decode cX11_init 291 = .ok (.dup, 1) := by decide +kernel
theorem dX11_init_292 : decode cX11_init 292 = .ok (.iconst 0, 1) := by decide +kernel
theorem dX11_init_293 : decode cX11_init 293 = .ok (.bipush 108, 2) := by decide +kernel
theorem dX11_init_295 : decode cX11_init 295 = .ok (.castore, 1) := by decide +kernel
theorem dX11_init_296 : decode cX11_init 296 = .ok (.dup, 1) := by decide +kernel
theorem dX11_init_297 : decode cX11_init 297 = .ok (.iconst 1, 1) := by decide +kernel
theorem dX11_init_298 : decode cX11_init 298 = .ok (.bipush 101, 2) := by decide +kernel
theorem dX11_init_300 : decode cX11_init 300 = .ok (.castore, 1) := by decide +kernel
theorem dX11_init_301 : decode cX11_init 301 = .ok (.dup, 1) := by decide +kernel
theorem dX11_init_302 : decode cX11_init 302 = .ok (.iconst 2, 1) := by decide +kernel
theorem dX11_init_303 : decode cX11_init 303 = .ok (.bipush 97, 2) := by decide +kernel
theorem dX11_init_305 : decode cX11_init 305 = .ok (.castore, 1) := by decide +kernel
theorem dX11_init_306 : decode cX11_init 306 = .ok (.dup, 1) := by decide +kernel
theorem dX11_init_307 : decode cX11_init 307 = .ok (.iconst 3, 1) := by decide +kernel
theorem dX11_init_308 : decode cX11_init 308 = .ok (.bipush 115, 2) := by decide +kernel
theorem dX11_init_310 : decode cX11_init 310 = .ok (.castore, 1) := by decide +kernel
theorem dX11_init_311 : decode cX11_init 311 = .ok (.dup, 1) := by decide +kernel
theorem dX11_init_312 : decode cX11_init 312 = .ok (.iconst 4, 1) := by decide +kernel
theorem dX11_init_313 : decode cX11_init 313 = .ok (.bipush 116, 2) := by decide +kernel
theorem dX11_init_315 : decode cX11_init 315 = .ok (.castore, 1) := by decide +kernel
theorem dX11_init_316 : decode cX11_init 316 = .ok (.putfield 45, 3) := by decide +kernel
theorem dX11_init_319 : decode cX11_init 319 = .ok (.aload_n 0, 1) := by decide +kernel
theorem dX11_init_320 : decode cX11_init 320 = .ok (.iconst 5, 1) := by decide +kernel
theorem dX11_init_321 : decode cX11_init 321 = .ok (.newarray .char, 2) := by decide +kernel
theorem dX11_init_323 : decode cX11_init 323 = .ok (.dup, 1) := by decide +kernel
theorem dX11_init_324 : decode cX11_init 324 = .ok (.iconst 0, 1) := by decide +kernel
theorem dX11_init_325 : decode cX11_init 325 = .ok (.bipush 108, 2) := by decide +kernel
theorem dX11_init_327 : decode cX11_init 327 = .ok (.castore, 1) := by decide +kernel
theorem dX11_init_328 : decode cX11_init 328 = .ok (.dup, 1) := by decide +kernel
theorem dX11_init_329 : decode cX11_init 329 = .ok (.iconst 1, 1) := by decide +kernel
theorem dX11_init_330 : decode cX11_init 330 = .ok (.bipush 111, 2) := by decide +kernel
theorem dX11_init_332 : decode cX11_init 332 = .ok (.castore, 1) := by decide +kernel
theorem dX11_init_333 : decode cX11_init 333 = .ok (.dup, 1) := by decide +kernel
theorem dX11_init_334 : decode cX11_init 334 = .ok (.iconst 2, 1) := by decide +kernel
theorem dX11_init_335 : decode cX11_init 335 = .ok (.bipush 111, 2) := by decide +kernel
theorem dX11_init_337 : decode cX11_init 337 = .ok (.castore, 1) := by decide +kernel
theorem dX11_init_338 : decode cX11_init 338 = .ok (.dup, 1) := by decide +kernel
theorem dX11_init_339 : decode cX11_init 339 = .ok (.iconst 3, 1) := by decide +kernel
theorem dX11_init_340 : decode cX11_init 340 = .ok (.bipush 107, 2) := by decide +kernel
theorem dX11_init_342 : decode cX11_init 342 = .ok (.castore, 1) := by decide +kernel
theorem dX11_init_343 : decode cX11_init 343 = .ok (.dup, 1) := by decide +kernel
theorem dX11_init_344 : decode cX11_init 344 = .ok (.iconst 4, 1) := by decide +kernel
theorem dX11_init_345 : decode cX11_init 345 = .ok (.bipush 115, 2) := by decide +kernel
theorem dX11_init_347 : decode cX11_init 347 = .ok (.castore, 1) := by decide +kernel
theorem dX11_init_348 : decode cX11_init 348 = .ok (.putfield 48, 3) := by decide +kernel
theorem dX11_init_351 : decode cX11_init 351 = .ok (.aload_n 0, 1) := by decide +kernel
theorem dX11_init_352 : decode cX11_init 352 = .ok (.iconst 5, 1) := by decide +kernel
theorem dX11_init_353 : decode cX11_init 353 = .ok (.newarray .char, 2) := by decide +kernel
theorem dX11_init_355 : decode cX11_init 355 = .ok (.dup, 1) := by decide +kernel
theorem dX11_init_356 : decode cX11_init 356 = .ok (.iconst 0, 1) := by decide +kernel
theorem dX11_init_357 : decode cX11_init 357 = .ok (.bipush 97, 2) := by decide +kernel
theorem dX11_init_359 : decode cX11_init 359 = .ok (.castore, 1) := by decide +kernel
theorem dX11_init_360 : decode cX11_init 360 = .ok (.dup, 1) := by decide +kernel
theorem dX11_init_361 : decode cX11_init 361 = .ok (.iconst 1, 1) := by decide +kernel
theorem dX11_init_362 : decode cX11_init 362 = .ok (.bipush 102, 2) := by decide +kernel
theorem dX11_init_364 : decode cX11_init 364 = .ok (.castore, 1) := by decide +kernel
theorem dX11_init_365 : decode cX11_init 365 = .ok (.dup, 1) := by decide +kernel
theorem dX11_init_366 : decode cX11_init 366 = .ok (.iconst 2, 1) := by decide +kernel
theorem dX11_init_367 : decode cX11_init 367 = .ok (.bipush 116, 2) := by decide +kernel
theorem dX11_init_369 : decode cX11_init 369 = .ok (.castore, 1) := by decide +kernel
theorem dX11_init_370 : decode cX11_init 370 = .ok (.dup, 1) := by decide +kernel
theorem dX11_init_371 : decode cX11_init 371 = .ok (.iconst 3, 1) := by decide +kernel
theorem dX11_init_372 : decode cX11_init 372 = .ok (.bipush 101, 2) := by decide +kernel
theorem dX11_init_374 : decode cX11_init 374 = .ok (.castore, 1) := by decide +kernel
theorem dX11_init_375 : decode cX11_init 375 = .ok (.dup, 1) := by decide +kernel
theorem dX11_init_376 : decode cX11_init 376 = .ok (.iconst 4, 1) := by decide +kernel
theorem dX11_init_377 : decode cX11_init 377 = .ok (.bipush 114, 2) := by decide +kernel
theorem dX11_init_379 : decode cX11_init 379 = .ok (.castore, 1) := by decide +kernel
theorem dX11_init_380 : decode cX11_init 380 = .ok (.putfield 51, 3) := by decide +kernel
theorem dX11_init_383 : decode cX11_init 383 = .ok (.aload_n 0, 1) := by decide +kernel
theorem dX11_init_384 : decode cX11_init 384 = .ok (.bipush 6, 2) := by decide +kernel
theorem dX11_init_386 : decode cX11_init 386 = .ok (.newarray .char, 2) := by decide +kernel
theorem dX11_init_388 : decode cX11_init 388 = .ok (.dup, 1) := by decide +kernel
theorem dX11_init_389 : decode cX11_init 389 = .ok (.iconst 0, 1) := by decide +kernel
theorem dX11_init_390 : decode cX11_init 390 = .ok (.bipush 98, 2) := by decide +kernel
theorem dX11_init_392 : decode cX11_init 392 = .ok (.castore, 1) := by decide +kernel
theorem dX11_init_393 : decode cX11_init 393 = .ok (.dup, 1) := by decide +kernel
theorem dX11_init_394 : decode cX11_init 394 = .ok (.iconst 1, 1) := by decide +kernel
theorem dX11_init_395 : decode cX11_init 395 = .ok (.bipush 101, 2) := by decide +kernel
theorem dX11_init_397 : decode cX11_init 397 = .ok (.castore, 1) := by decide +kernel
theorem dX11_init_398 : decode cX11_init 398 = .ok (.dup, 1) := by decide +kernel
theorem dX11_init_399 : decode cX11_init 399 = .ok (.iconst 2, 1) := by decide +kernel
theorem dX11_init_400 : decode cX11_init 400 = .ok (.bipush 102, 2) := by decide +kernel
theorem dX11_init_402 : decode cX11_init 402 = .ok (.castore, 1) := by decide +kernel
theorem dX11_init_403 : decode cX11_init 403 = .ok (.dup, 1) := by decide +kernel
theorem dX11_init_404 : decode cX11_init 404 = .ok (.iconst 3, 1) := by decide +kernel
theorem dX11_init_405 : decode cX11_init 405 = .ok (.bipush 111, 2) := by decide +kernel
theorem dX11_init_407 : decode cX11_init 407 = .ok (.castore, 1) := by decide +kernel
theorem dX11_init_408 : decode cX11_init 408 = .ok (.dup, 1) := by decide +kernel
theorem dX11_init_409 : decode cX11_init 409 = .ok (.iconst 4, 1) := by decide +kernel
theorem dX11_init_410 : decode cX11_init 410 = .ok (.bipush 114, 2) := by decide +kernel
theorem dX11_init_412 : decode cX11_init 412 = .ok (.castore, 1) := by decide +kernel
theorem dX11_init_413 : decode cX11_init 413 = .ok (.dup, 1) := by decide +kernel
theorem dX11_init_414 : decode cX11_init 414 = .ok (.iconst 5, 1) := by decide +kernel
theorem dX11_init_415 : decode cX11_init 415 = .ok (.bipush 101, 2) := by decide +kernel
theorem dX11_init_417 : decode cX11_init 417 = .ok (.castore, 1) := by decide +kernel
theorem dX11_init_418 : decode cX11_init 418 = .ok (.putfield 54, 3) := by decide +kernel
theorem dX11_init_421 : decode cX11_init 421 = .ok (.aload_n 0, 1) := by decide +kernel
theorem dX11_init_422 : decode cX11_init 422 = .ok (.iconst 4, 1) := by decide +kernel
theorem dX11_init_423 : decode cX11_init 423 = .ok (.newarray .char, 2) := by decide +kernel
theorem dX11_init_425 : decode cX11_init 425 = .ok (.dup, 1) := by decide +kernel
theorem dX11_init_426 : decode cX11_init 426 = .ok (.iconst 0, 1) := by decide +kernel
theorem dX11_init_427 : decode cX11_init 427 = .ok (.bipush 101, 2) := by decide +kernel
theorem dX11_init_429 : decode cX11_init 429 = .ok (.castore, 1) := by decide +kernel
theorem dX11_init_430 : decode cX11_init 430 = .ok (.dup, 1) := by decide +kernel
theorem dX11_init_431 : decode cX11_init 431 = .ok (.iconst 1, 1) := by decide +kernel
theorem dX11_init_432 : decode cX11_init 432 = .ok (.bipush 118, 2) := by decide +kernel
theorem dX11_init_434 : decode cX11_init 434 = .ok (.castore, 1) := by decide +kernel
theorem dX11_init_435 : decode cX11_init 435 = .ok (.dup, 1) := by decide +kernel
theorem dX11_init_436 : decode cX11_init 436 = .ok (.iconst 2, 1) := by decide +kernel
theorem dX11_init_437 : decode cX11_init 437 = .ok (.bipush 101, 2) := by decide +kernel
theorem dX11_init_439 : decode cX11_init 439 = .ok (.castore, 1) := by decide +kernel
theorem dX11_init_440 : decode cX11_init 440 = .ok (.dup, 1) := by decide +kernel
theorem dX11_init_441 : decode cX11_init 441 = .ok (.iconst 3, 1) := by decide +kernel
theorem dX11_init_442 : decode cX11_init 442 = .ok (.bipush 110, 2) := by decide +kernel
theorem dX11_init_444 : decode cX11_init 444 = .ok (.castore, 1) := by decide +kernel
theorem dX11_init_445 : decode cX11_init 445 = .ok (.putfield 57, 3) := by decide +kernel
theorem dX11_init_448 : decode cX11_init 448 = .ok (.aload_n 0, 1) := by decide +kernel
theorem dX11_init_449 : decode cX11_init 449 = .ok (.iconst 5, 1) := by decide +kernel
theorem dX11_init_450 : decode cX11_init 450 = .ok (.newarray .char, 2) := by decide +kernel
theorem dX11_init_452 : decode cX11_init 452 = .ok (.dup, 1) := by decide +kernel
theorem dX11_init_453 : decode cX11_init 453 = .ok (.iconst 0, 1) := by decide +kernel
theorem dX11_init_454 : decode cX11_init 454 = .ok (.bipush 115, 2) := by decide +kernel
theorem dX11_init_456 : decode cX11_init 456 = .ok (.castore, 1) := by decide +kernel
theorem dX11_init_457 : decode cX11_init 457 = .ok (.dup, 1) := by decide +kernel
theorem dX11_init_458 : decode cX11_init 458 = .ok (.iconst 1, 1) := by decide +kernel
theorem dX11_init_459 : decode cX11_init 459 = .ok (.bipush 104, 2) := by decide +kernel
theorem dX11_init_461 : decode cX11_init 461 = .ok (.castore, 1) := by decide +kernel
theorem dX11_init_462 : decode cX11_init 462 = .ok (.dup, 1) := by decide +kernel
theorem dX11_init_463 : decode cX11_init 463 = .ok (.iconst 2, 1) := by decide +kernel
theorem dX11_init_464 : decode cX11_init 464 = .ok (.bipush 97, 2) := by decide +kernel
theorem dX11_init_466 : decode cX11_init 466 = .ok (.castore, 1) := by decide +kernel
theorem dX11_init_467 : decode cX11_init 467 = .ok (.dup, 1) := by decide +kernel
theorem dX11_init_468 : decode cX11_init 468 = .ok (.iconst 3, 1) := by decide +kernel
theorem dX11_init_469 : decode cX11_init 469 = .ok (.bipush 114, 2) := by decide +kernel
theorem dX11_init_471 : decode cX11_init 471 = .ok (.castore, 1) := by decide +kernel
theorem dX11_init_472 : decode cX11_init 472 = .ok (.dup, 1) := by decide +kernel
theorem dX11_init_473 : decode cX11_init 473 = .ok (.iconst 4, 1) := by decide +kernel
theorem dX11_init_474 : decode cX11_init 474 = .ok (.bipush 101, 2) := by decide +kernel
theorem dX11_init_476 : decode cX11_init 476 = .ok (.castore, 1) := by decide +kernel
theorem dX11_init_477 : decode cX11_init 477 = .ok (.putfield 60, 3) := by decide +kernel
theorem dX11_init_480 : decode cX11_init 480 = .ok (.aload_n 0, 1) := by decide +kernel
theorem dX11_init_481 : decode cX11_init 481 = .ok (.bipush 6, 2) := by decide +kernel
theorem dX11_init_483 : decode cX11_init 483 = .ok (.newarray .char, 2) := by decide +kernel
theorem dX11_init_485 : decode cX11_init 485 = .ok (.dup, 1) := by decide +kernel
theorem dX11_init_486 : decode cX11_init 486 = .ok (.iconst 0, 1) := by decide +kernel
theorem dX11_init_487 : decode cX11_init 487 = .ok (.bipush 112, 2) := by decide +kernel
theorem dX11_init_489 : decode cX11_init 489 = .ok (.castore, 1) := by decide +kernel
theorem dX11_init_490 : decode cX11_init 490 = .ok (.dup, 1) := by decide +kernel
theorem dX11_init_491 : decode cX11_init 491 = .ok (.iconst 1, 1) := by decide +kernel
theorem dX11_init_492 : decode cX11_init 492 = .ok (.bipush 101, 2) := by decide +kernel
theorem dX11_init_494 : decode cX11_init 494 = .ok (.castore, 1) := by decide +kernel
theorem dX11_init_495 : decode cX11_init 495 = .ok (.dup, 1) := by decide +kernel
theorem dX11_init_496 : decode cX11_init 496 = .ok (.iconst 2, 1) := by decide +kernel
theorem dX11_init_497 : decode cX11_init 497 = .ok (.bipush 114, 2) := by decide +kernel
theorem dX11_init_499 : decode cX11_init 499 = .ok (.castore, 1) := by decide +kernel
theorem dX11_init_500 : decode cX11_init 500 = .ok (.dup, 1) := by decide +kernel
theorem dX11_init_501 : decode cX11_init 501 = .ok (.iconst 3, 1) := by decide +kernel
theorem dX11_init_502 : decode cX11_init 502 = .ok (.bipush 115, 2) := by decide +kernel
theorem dX11_init_504 : decode cX11_init 504 = .ok (.castore, 1) := by decide +kernel
theorem dX11_init_505 : decode cX11_init 505 = .ok (.dup, 1) := by decide +kernel
theorem dX11_init_506 : decode cX11_init 506 = .ok (.iconst 4, 1) := by decide +kernel
theorem dX11_init_507 : decode cX11_init 507 = .ok (.bipush 111, 2) := by decide +kernel
theorem dX11_init_509 : decode cX11_init 509 = .ok (.castore, 1) := by decide +kernel
theorem dX11_init_510 : decode cX11_init 510 = .ok (.dup, 1) := by decide +kernel
theorem dX11_init_511 : decode cX11_init 511 = .ok (.iconst 5, 1) := by decide +kernel
theorem dX11_init_512 : decode cX11_init 512 = .ok (.bipush 110, 2) := by decide +kernel
theorem dX11_init_514 : decode cX11_init 514 = .ok (.castore, 1) := by decide +kernel
theorem dX11_init_515 : decode cX11_init 515 = .ok (.putfield 63, 3) := by decide +kernel
theorem dX11_init_518 : decode cX11_init 518 = .ok (.aload_n 0, 1) := by decide +kernel
theorem dX11_init_519 : decode cX11_init 519 = .ok (.iconst 2, 1) := by decide +kernel
theorem dX11_init_520 : decode cX11_init 520 = .ok (.newarray .char, 2) := by decide +kernel
theorem dX11_init_522 : decode cX11_init 522 = .ok (.dup, 1) := by decide +kernel
theorem dX11_init_523 : decode cX11_init 523 = .ok (.iconst 0, 1) := by decide +kernel
theorem dX11_init_524 : decode cX11_init 524 = .ok (.bipush 105, 2) := by decide +kernel
theorem dX11_init_526 : decode cX11_init 526 = .ok (.castore, 1) := by decide +kernel
theorem dX11_init_527 : decode cX11_init 527 = .ok (.dup, 1) := by decide +kernel
theorem dX11_init_528 : decode cX11_init 528 = .ok (.iconst 1, 1) := by decide +kernel
theorem dX11_init_529 : decode cX11_init 529 = .ok (.bipush 110, 2) := by decide +kernel
theorem dX11_init_531 : decode cX11_init 531 = .ok (.castore, 1) := by decide +kernel
theorem dX11_init_532 : decode cX11_init 532 = .ok (.putfield 66, 3) := by decide +kernel
theorem dX11_init_535 : decode cX11_init 535 = .ok (.aload_n 0, 1) := by decide +kernel
theorem dX11_init_536 : decode cX11_init 536 = .ok (.iconst 4, 1) := by decide +kernel
theorem dX11_init_537 : decode cX11_init 537 = .ok (.newarray .char, 2) := by decide +kernel
theorem dX11_init_539 : decode cX11_init 539 = .ok (.dup, 1) := by decide +kernel
theorem dX11_init_540 : decode cX11_init 540 = .ok (.iconst 0, 1) := by decide +kernel
theorem dX11_init_541 : decode cX11_init 541 = .ok (.bipush 112, 2) := by decide +kernel
theorem dX11_init_543 : decode cX11_init 543 = .ok (.castore, 1) := by decide +kernel
theorem dX11_init_544 : decode cX11_init 544 = .ok (.dup, 1) := by decide +kernel
theorem dX11_init_545 : decode cX11_init 545 = .ok (.iconst 1, 1) := by decide +kernel
theorem dX11_init_546 : decode cX11_init 546 = .ok (.bipush 97, 2) := by decide +kernel
theorem dX11_init_548 : decode cX11_init 548 = .ok (.castore, 1) := by decide +kernel
theorem dX11_init_549 : decode cX11_init 549 = .ok (.dup, 1) := by decide +kernel
theorem dX11_init_550 : decode cX11_init 550 = .ok (.iconst 2, 1) := by decide +kernel
theorem dX11_init_551 : decode cX11_init 551 = .ok (.bipush 105, 2) := by decide +kernel
theorem dX11_init_553 : decode cX11_init 553 = .ok (.castore, 1) := by decide +kernel
theorem dX11_init_554 : decode cX11_init 554 = .ok (.dup, 1) := by decide +kernel
theorem dX11_init_555 : decode cX11_init 555 = .ok (.iconst 3, 1) := by decide +kernel
theorem dX11_init_556 : decode cX11_init 556 = .ok (.bipush 114, 2) := by decide +kernel
theorem dX11_init_558 : decode cX11_init 558 = .ok (.castore, 1) := by decide +kernel
theorem dX11_init_559 : decode cX11_init 559 = .ok (.putfield 69, 3) := by decide +kernel
theorem dX11_init_562 : decode cX11_init 562 = .ok (.aload_n 0, 1) := by decide +kernel
theorem dX11_init_563 : decode cX11_init 563 = .ok (.iconst 5, 1) := by decide +kernel
theorem dX11_init_564 : decode cX11_init 564 = .ok (.newarray .char, 2) := by decide +kernel
theorem dX11_init_566 : decode cX11_init 566 = .ok (.dup, 1) := by decide +kernel
theorem dX11_init_567 : decode cX11_init 567 = .ok (.iconst 0, 1) := by decide +kernel
theorem dX11_init_568 : decode cX11_init 568 = .ok (.bipush 119, 2) := by decide +kernel
theorem dX11_init_570 : decode cX11_init 570 = .ok (.castore, 1) := by decide +kernel
theorem dX11_init_571 : decode cX11_init 571 = .ok (.dup, 1) := by decide +kernel
theorem dX11_init_572 : decode cX11_init 572 = .ok (.iconst 1, 1) := by decide +kernel
theorem dX11_init_573 : decode cX11_init 573 = .ok (.bipush 111, 2) := by decide +kernel
theorem dX11_init_575 : decode cX11_init 575 = .ok (.castore, 1) := by decide +kernel
theorem dX11_init_576 : decode cX11_init 576 = .ok (.dup, 1) := by decide +kernel
theorem dX11_init_577 : decode cX11_init 577 = .ok (.iconst 2, 1) := by decide +kernel
theorem dX11_init_578 : decode cX11_init 578 = .ok (.bipush 114, 2) := by decide +kernel
theorem dX11_init_580 : decode cX11_init 580 = .ok (.castore, 1) := by decide +kernel
theorem dX11_init_581 : decode cX11_init 581 = .ok (.dup, 1) := by decide +kernel
theorem dX11_init_582 : decode cX11_init 582 = .ok (.iconst 3, 1) := by decide +kernel
theorem dX11_init_583 : decode cX11_init 583 = .ok (.bipush 107, 2) := by decide +kernel
theorem dX11_init_585 : decode cX11_init 585 = .ok (.castore, 1) := by decide +kernel
theorem dX11_init_586 : decode cX11_init 586 = .ok (.dup, 1) := by decide +kernel
theorem dX11_init_587 : decode cX11_init 587 = .ok (.iconst 4, 1) := by decide +kernel
theorem dX11_init_588 : decode cX11_init 588 = .ok (.bipush 115, 2) := by decide +kernel
theorem dX11_init_590 : decode cX11_init 590 = .ok (.castore, 1) := by decide +kernel
theorem dX11_init_591 : decode cX11_init 591 = .ok (.putfield 72, 3) := by decide +kernel
theorem dX11_init_594 : decode cX11_init 594 = .ok (.aload_n 0, 1) := by decide +kernel
theorem dX11_init_595 : decode cX11_init 595 = .ok (.iconst 4, 1) := by decide +kernel
theorem dX11_init_596 : decode cX11_init 596 = .ok (.newarray .char, 2) := by decide +kernel
theorem dX11_init_598 : decode cX11_init 598 = .ok (.dup, 1) := by decide +kernel
theorem dX11_init_599 : decode cX11_init 599 = .ok (.iconst 0, 1) := by decide +kernel
theorem dX11_init_600 : decode cX11_init 600 = .ok (.bipush 119, 2) := by decide +kernel
theorem dX11_init_602 : decode cX11_init 602 = .ok (.castore, 1) := by decide +kernel
theorem dX11_init_603 : decode cX11_init 603 = .ok (.dup, 1) := by decide +kernel
theorem dX11_init_604 : decode cX11_init 604 = .ok (.iconst 1, 1) := by decide +kernel
theorem dX11_init_605 : decode cX11_init 605 = .ok (.bipush 104, 2) := by decide +kernel
theorem dX11_init_607 : decode cX11_init 607 = .ok (.castore, 1) := by decide +kernel
theorem dX11_init_608 : decode cX11_init 608 = .ok (.dup, 1) := by decide +kernel
theorem dX11_init_609 : decode cX11_init 609 = .ok (.iconst 2, 1) := by decide +kernel
theorem dX11_init_610 : decode cX11_init 610 = .ok (.bipush 101, 2) := by decide +kernel
theorem dX11_init_612 : decode cX11_init 612 = .ok (.castore, 1) := by decide +kernel
theorem dX11_init_613 : decode cX11_init 613 = .ok (.dup, 1) := by decide +kernel
theorem dX11_init_614 : decode cX11_init 614 = .ok (.iconst 3, 1) := by decide +kernel
theorem dX11_init_615 : decode cX11_init 615 = .ok (.bipush 110, 2) := by decide +kernel
theorem dX11_init_617 : decode cX11_init 617 = .ok (.castore, 1) := by decide +kernel
theorem dX11_init_618 : decode cX11_init 618 = .ok (.putfield 75, 3) := by decide +kernel
theorem dX11_init_621 : decode cX11_init 621 = .ok (.aload_n 0, 1) := by decide +kernel
theorem dX11_init_622 : decode cX11_init 622 = .ok (.iconst 2, 1) := by decide +kernel
theorem dX11_init_623 : decode cX11_init 623 = .ok (.newarray .char, 2) := by decide +kernel
theorem dX11_init_625 : decode cX11_init 625 = .ok (.dup, 1) := by decide +kernel
theorem dX11_init_626 : decode cX11_init 626 = .ok (.iconst 0, 1) := by decide +kernel
theorem dX11_init_627 : decode cX11_init 627 = .ok (.bipush 111, 2) := by decide +kernel
theorem dX11_init_629 : decode cX11_init 629 = .ok (.castore, 1) := by decide +kernel
theorem dX11_init_630 : decode cX11_init 630 = .ok (.dup, 1) := by decide +kernel
theorem dX11_init_631 : decode cX11_init 631 = .ok (.iconst 1, 1) := by decide +kernel
theorem dX11_init_632 : decode cX11_init 632 = .ok (.bipush 114, 2) := by decide +kernel
theorem dX11_init_634 : decode cX11_init 634 = .ok (.castore, 1) := by decide +kernel
theorem dX11_init_635 : decode cX11_init 635 = .ok (.putfield 78, 3) := by decide +kernel
theorem dX11_init_638 : decode cX11_init 638 = .ok (.aload_n 0, 1) := by decide +kernel
theorem dX11_init_639 : decode cX11_init 639 = .ok (.iconst 3, 1) := by decide +kernel
theorem dX11_init_640 : decode cX11_init 640 = .ok (.newarray .char, 2) := by decide +kernel
theorem dX11_init_642 : decode cX11_init 642 = .ok (.dup, 1) := by decide +kernel
theorem dX11_init_643 : decode cX11_init 643 = .ok (.iconst 0, 1) := by decide +kernel
theorem dX11_init_644 : decode cX11_init 644 = .ok (.bipush 97, 2) := by decide +kernel
theorem dX11_init_646 : decode cX11_init 646 = .ok (.castore, 1) := by decide +kernel
theorem dX11_init_647 : decode cX11_init 647 = .ok (.dup, 1) := by decide +kernel
theorem dX11_init_648 : decode cX11_init 648 = .ok (.iconst 1, 1) := by decide +kernel
theorem dX11_init_649 : decode cX11_init 649 = .ok (.bipush 110, 2) := by decide +kernel
theorem dX11_init_651 : decode cX11_init 651 = .ok (.castore, 1) := by decide +kernel
theorem dX11_init_652 : decode cX11_init 652 = .ok (.dup, 1) := by decide +kernel
theorem dX11_init_653 : decode cX11_init 653 = .ok (.iconst 2, 1) := by decide +kernel
theorem dX11_init_654 : decode cX11_init 654 = .ok (.bipush 100, 2) := by decide +kernel
theorem dX11_init_656 : decode cX11_init 656 = .ok (.castore, 1) := by decide +kernel
theorem dX11_init_657 : decode cX11_init 657 = .ok (.putfield 81, 3) := by decide +kernel
theorem dX11_init_660 : decode cX11_init 660 = .ok (.aload_n 0, 1) := by decide +kernel
theorem dX11_init_661 : decode cX11_init 661 = .ok (.iconst 3, 1) := by decide +kernel
theorem dX11_init_662 : decode cX11_init 662 = .ok (.newarray .char, 2) := by decide +kernel
theorem dX11_init_664 : decode cX11_init 664 = .ok (.dup, 1) := by decide +kernel
theorem dX11_init_665 : decode cX11_init 665 = .ok (.iconst 0, 1) := by decide +kernel
theorem dX11_init_666 : decode cX11_init 666 = .ok (.bipush 110, 2) := by decide +kernel
theorem dX11_init_668 : decode cX11_init 668 = .ok (.castore, 1) := by decide +kernel
theorem dX11_init_669 : decode cX11_init 669 = .ok (.dup, 1) := by decide +kernel
theorem dX11_init_670 : decode cX11_init 670 = .ok (.iconst 1, 1) := by decide +kernel
theorem dX11_init_671 : decode cX11_init 671 = .ok (.bipush 111, 2) := by decide +kernel
theorem dX11_init_673 : decode cX11_init 673 = .ok (.castore, 1) := by decide +kernel
theorem dX11_init_674 : decode cX11_init 674 = .ok (.dup, 1) := by decide +kernel
theorem dX11_init_675 : decode cX11_init 675 = .ok (.iconst 2, 1) := by decide +kernel
theorem dX11_init_676 : decode cX11_init 676 = .ok (.bipush 116, 2) := by decide +kernel
theorem dX11_init_678 : decode cX11_init 678 = .ok (.castore, 1) := by decide +kernel
theorem dX11_init_679 : decode cX11_init 679 = .ok (.putfield 84, 3) := by decide +kernel
theorem dX11_init_682 : decode cX11_init 682 = .ok (.aload_n 0, 1) := by decide +kernel
theorem dX11_init_683 : decode cX11_init 683 = .ok (.iconst 3, 1) := by decide +kernel
theorem dX11_init_684 : decode cX11_init 684 = .ok (.newarray .char, 2) := by decide +kernel
theorem dX11_init_686 : decode cX11_init 686 = .ok (.dup, 1) := by decide +kernel
theorem dX11_init_687 : decode cX11_init 687 = .ok (.iconst 0, 1) := by decide +kernel
theorem dX11_init_688 : decode cX11_init 688 = .ok (.bipush 97, 2) := by decide +kernel
theorem dX11_init_690 : decode cX11_init 690 = .ok (.castore, 1) := by decide +kernel
theorem dX11_init_691 : decode cX11_init 691 = .ok (.dup, 1) := by decide +kernel
theorem dX11_init_692 : decode cX11_init 692 = .ok (.iconst 1, 1) := by decide +kernel
theorem dX11_init_693 : decode cX11_init 693 = .ok (.bipush 108, 2) := by decide +kernel
theorem dX11_init_695 : decode cX11_init 695 = .ok (.castore, 1) := by decide +kernel
theorem dX11_init_696 : decode cX11_init 696 = .ok (.dup, 1) := by decide +kernel
theorem dX11_init_697 : decode cX11_init 697 = .ok (.iconst 2, 1) := by decide +kernel
theorem dX11_init_698 : decode cX11_init 698 = .ok (.bipush 108, 2) := by decide +kernel
theorem dX11_init_700 : decode cX11_init 700 = .ok (.castore, 1) := by decide +kernel
theorem dX11_init_701 : decode cX11_init 701 = .ok (.putfield 87, 3) := by decide +kernel
theorem dX11_init_704 : decode cX11_init 704 = .ok (.aload_n 0, 1) := by decide +kernel
theorem dX11_init_705 : decode cX11_init 705 = .ok (.iconst 4, 1) := by decide +kernel
theorem dX11_init_706 : decode cX11_init 706 = .ok (.newarray .char, 2) := by decide +kernel
theorem dX11_init_708 : decode cX11_init 708 = .ok (.dup, 1) := by decide +kernel
theorem dX11_init_709 : decode cX11_init 709 = .ok (.iconst 0, 1) := by decide +kernel
theorem dX11_init_710 : decode cX11_init 710 = .ok (.bipush 109, 2) := by decide +kernel
theorem dX11_init_712 : decode cX11_init 712 = .ok (.castore, 1) := by decide +kernel
theorem dX11_init_713 : decode cX11_init 713 = .ok (.dup, 1) := by decide +kernel
theorem dX11_init_714 : decode cX11_init 714 = .ok (.iconst 1, 1) := by decide +kernel
theorem dX11_init_715 : decode cX11_init 715 = .ok (.bipush 97, 2) := by decide +kernel
theorem dX11_init_717 : decode cX11_init 717 = .ok (.castore, 1) := by decide +kernel
theorem dX11_init_718 : decode cX11_init 718 = .ok (.dup, 1) := by decide +kernel
theorem dX11_init_719 : decode cX11_init 719 = .ok (.iconst 2, 1) := by decide +kernel
theorem dX11_init_720 : decode cX11_init 720 = .ok (.bipush 110, 2) := by decide +kernel
theorem dX11_init_722 : decode cX11_init 722 = .ok (.castore, 1) := by decide +kernel
theorem dX11_init_723 : decode cX11_init 723 = .ok (.dup, 1) := by decide +kernel
theorem dX11_init_724 : decode cX11_init 724 = .ok (.iconst 3, 1) := by decide +kernel
theorem dX11_init_725 : decode cX11_init 725 = .ok (.bipush 121, 2) := by decide +kernel
theorem dX11_init_727 : decode cX11_init 727 = .ok (.castore, 1) := by decide +kernel
theorem dX11_init_728 : decode cX11_init 728 = .ok (.putfield 90, 3) := by decide +kernel
theorem dX11_init_731 : decode cX11_init 731 = .ok (.aload_n 0, 1) := by decide +kernel
theorem dX11_init_732 : decode cX11_init 732 = .ok (.iconst 4, 1) := by decide +kernel
theorem dX11_init_733 : decode cX11_init 733 = .ok (.newarray .char, 2) := by decide +kernel
theorem dX11_init_735 : decode cX11_init 735 = .ok (.dup, 1) := by decide +kernel
theorem dX11_init_736 : decode cX11_init 736 = .ok (.iconst 0, 1) := by decide +kernel
theorem dX11_init_737 : decode cX11_init 737 = .ok (.bipush 119, 2) := by decide +kernel
theorem dX11_init_739 : decode cX11_init 739 = .ok (.castore, 1) := by decide +kernel
theorem dX11_init_740 : decode cX11_init 740 = .ok (.dup, 1) := by decide +kernel
theorem dX11_init_741 : decode cX11_init 741 = .ok (.iconst 1, 1) := by decide +kernel
theorem dX11_init_742 : decode cX11_init 742 = .ok (.bipush 101, 2) := by decide +kernel
theorem dX11_init_744 : decode cX11_init 744 = .ok (.castore, 1) := by decide +kernel
theorem dX11_init_745 : decode cX11_init 745 = .ok (.dup, 1) := by decide +kernel
theorem dX11_init_746 : decode cX11_init 746 = .ok (.iconst 2, 1) := by decide +kernel
theorem dX11_init_747 : decode cX11_init 747 = .ok (.bipush 101, 2) := by decide +kernel
theorem dX11_init_749 : decode cX11_init 749 = .ok (.castore, 1) := by decide +kernel
theorem dX11_init_750 : decode cX11_init 750 = .ok (.dup, 1) := by decide +kernel
theorem dX11_init_751 : decode cX11_init 751 = .ok (.iconst 3, 1) := by decide +kernel
theorem dX11_init_752 : decode cX11_init 752 = .ok (.bipush 107, 2) := by decide +kernel
theorem dX11_init_754 : decode cX11_init 754 = .ok (.castore, 1) := by decide +kernel
theorem dX11_init_755 : decode cX11_init 755 = .ok (.putfield 93, 3) := by decide +kernel
theorem dX11_init_758 : decode cX11_init 758 = .ok (.aload_n 0, 1) := by decide +kernel
theorem dX11_init_759 : decode cX11_init 759 = .ok (.iconst 4, 1) := by decide +kernel
theorem dX11_init_760 : decode cX11_init 760 = .ok (.newarray .char, 2) := by decide +kernel
theorem dX11_init_762 : decode cX11_init 762 = .ok (.dup, 1) := by decide +kernel
theorem dX11_init_763 : decode cX11_init 763 = .ok (.iconst 0, 1) := by decide +kernel
theorem dX11_init_764 : decode cX11_init 764 = .ok (.bipush 108, 2) := by decide +kernel
theorem dX11_init_766 : decode cX11_init 766 = .ok (.castore, 1) := by decide +kernel
theorem dX11_init_767 : decode cX11_init 767 = .ok (.dup, 1) := by decide +kernel
theorem dX11_init_768 : decode cX11_init 768 = .ok (.iconst 1, 1) := by decide +kernel
theorem dX11_init_769 : decode cX11_init 769 = .ok (.bipush 97, 2) := by decide +kernel
theorem dX11_init_771 : decode cX11_init 771 = .ok (.castore, 1) := by decide +kernel
theorem dX11_init_772 : decode cX11_init 772 = .ok (.dup, 1) := by decide +kernel
theorem dX11_init_773 : decode cX11_init 773 = .ok (.iconst 2, 1) := by decide +kernel
theorem dX11_init_774 : decode cX11_init 774 = .ok (.bipush 115, 2) := by decide +kernel
theorem dX11_init_776 : decode cX11_init 776 = .ok (.castore, 1) := by decide +kernel
theorem dX11_init_777 : decode cX11_init 777 = .ok (.dup, 1) := by decide +kernel
theorem dX11_init_778 : decode cX11_init 778 = .ok (.iconst 3, 1) := by decide +kernel
theorem dX11_init_779 : decode cX11_init 779 = .ok (.bipush 116, 2) := by decide +kernel
theorem dX11_init_781 : decode cX11_init 781 = .ok (.castore, 1) := by decide +kernel
theorem dX11_init_782 : decode cX11_init 782 = .ok (.putfield 96, 3) := by decide +kernel
theorem dX11_init_785 : decode cX11_init 785 = .ok (.aload_n 0, 1) := by decide +kernel
theorem dX11_init_786 : decode cX11_init 786 = .ok (.iconst 4, 1) := by decide +kernel
theorem dX11_init_787 : decode cX11_init 787 = .ok (.newarray .char, 2) := by decide +kernel
theorem dX11_init_789 : decode cX11_init 789 = .ok (.dup, 1) := by decide +kernel
theorem dX11_init_790 : decode cX11_init 790 = .ok (.iconst 0, 1) := by decide +kernel
theorem dX11_init_791 : decode cX11_init 791 = .ok (.bipush 109, 2) := by decide +kernel
theorem dX11_init_793 : decode cX11_init 793 = .ok (.castore, 1) := by decide +kernel
theorem dX11_init_794 : decode cX11_init 794 = .ok (.dup, 1) := by decide +kernel
theorem dX11_init_795 : decode cX11_init 795 = .ok (.iconst 1, 1) := by decide +kernel
theorem dX11_init_796 : decode cX11_init 796 = .ok (.bipush 111, 2) := by decide +kernel
theorem dX11_init_798 : decode cX11_init 798 = .ok (.castore, 1) := by decide +kernel
theorem dX11_init_799 : decode cX11_init 799 = .ok (.dup, 1) := by decide +kernel
theorem dX11_init_800 : decode cX11_init 800 = .ok (.iconst 2, 1) := by decide +kernel
theorem dX11_init_801 : decode cX11_init 801 = .ok (.bipush 115, 2) := by decide +kernel
theorem dX11_init_803 : decode cX11_init 803 = .ok (.castore, 1) := by decide +kernel
theorem dX11_init_804 : decode cX11_init 804 = .ok (.dup, 1) := by decide +kernel
theorem dX11_init_805 : decode cX11_init 805 = .ok (.iconst 3, 1) := by decide +kernel
theorem dX11_init_806 : decode cX11_init 806 = .ok (.bipush 116, 2) := by decide +kernel
theorem dX11_init_808 : decode cX11_init 808 = .ok (.castore, 1) := by decide +kernel
theorem dX11_init_809 : decode cX11_init 809 = .ok (.putfield 99, 3) := by decide +kernel
theorem dX11_init_812 : decode cX11_init 812 = .ok (.aload_n 0, 1) := by decide +kernel
theorem dX11_init_813 : decode cX11_init 813 = .ok (.iconst 5, 1) := by decide +kernel
theorem dX11_init_814 : decode cX11_init 814 = .ok (.newarray .char, 2) := by decide +kernel
theorem dX11_init_816 : decode cX11_init 816 = .ok (.dup, 1) := by decide +kernel
theorem dX11_init_817 : decode cX11_init 817 = .ok (.iconst 0, 1) := by decide +kernel
theorem dX11_init_818 : decode cX11_init 818 = .ok (.bipush 100, 2) := by decide +kernel
theorem dX11_init_820 : decode cX11_init 820 = .ok (.castore, 1) := by decide +kernel
theorem dX11_init_821 : decode cX11_init 821 = .ok (.dup, 1) := by decide +kernel
theorem dX11_init_822 : decode cX11_init 822 = .ok (.iconst 1, 1) := by decide +kernel
theorem dX11_init_823 : decode cX11_init 823 = .ok (.bipush 114, 2) := by decide +kernel
theorem dX11_init_825 : decode cX11_init 825 = .ok (.castore, 1) := by decide +kernel
theorem dX11_init_826 : decode cX11_init 826 = .ok (.dup, 1) := by decide +kernel
theorem dX11_init_827 : decode cX11_init 827 = .ok (.iconst 2, 1) := by decide +kernel
theorem dX11_init_828 : decode cX11_init 828 = .ok (.bipush 97, 2) := by decide +kernel
theorem dX11_init_830 : decode cX11_init 830 = .ok (.castore, 1) := by decide +kernel
theorem dX11_init_831 : decode cX11_init 831 = .ok (.dup, 1) := by decide +kernel
theorem dX11_init_832 : decode cX11_init 832 = .ok (.iconst 3, 1) := by decide +kernel
theorem dX11_init_833 : decode cX11_init 833 = .ok (.bipush 119, 2) := by decide +kernel
theorem dX11_init_835 : decode cX11_init 835 = .ok (.castore, 1) := by decide +kernel
theorem dX11_init_836 : decode cX11_init 836 = .ok (.dup, 1) := by decide +kernel
theorem dX11_init_837 : decode cX11_init 837 = .ok (.iconst 4, 1) := by decide +kernel
theorem dX11_init_838 : decode cX11_init 838 = .ok (.bipush 110, 2) := by decide +kernel
theorem dX11_init_840 : decode cX11_init 840 = .ok (.castore, 1) := by decide +kernel
theorem dX11_init_841 : decode cX11_init 841 = .ok (.putfield 102, 3) := by decide +kernel
theorem dX11_init_844 : decode cX11_init 844 = .ok (.aload_n 0, 1) := by decide +kernel
theorem dX11_init_845 : decode cX11_init 845 = .ok (.iconst 3, 1) := by decide +kernel
theorem dX11_init_846 : decode cX11_init 846 = .ok (.newarray .char, 2) := by decide +kernel
theorem dX11_init_848 : decode cX11_init 848 = .ok (.dup, 1) := by decide +kernel
theorem dX11_init_849 : decode cX11_init 849 = .ok (.iconst 0, 1) := by decide +kernel
theorem dX11_init_850 : decode cX11_init 850 = .ok (.bipush 111, 2) := by decide +kernel
theorem dX11_init_852 : decode cX11_init 852 = .ok (.castore, 1) := by decide +kernel
theorem dX11_init_853 : decode cX11_init 853 = .ok (.dup, 1) := by decide +kernel
theorem dX11_init_854 : decode cX11_init 854 = .ok (.iconst 1, 1) := by decide +kernel
theorem dX11_init_855 : decode cX11_init 855 = .ok (.bipush 119, 2) := by decide +kernel
theorem dX11_init_857 : decode cX11_init 857 = .ok (.castore, 1) := by decide +kernel
theorem dX11_init_858 : decode cX11_init 858 = .ok (.dup, 1) := by decide +kernel
theorem dX11_init_859 : decode cX11_init 859 = .ok (.iconst 2, 1) := by decide +kernel
theorem dX11_init_860 : decode cX11_init 860 = .ok (.bipush 110, 2) := by decide +kernel
theorem dX11_init_862 : decode cX11_init 862 = .ok (.castore, 1) := by decide +kernel
theorem dX11_init_863 : decode cX11_init 863 = .ok (.putfield 105, 3) := by decide +kernel
theorem dX11_init_866 : decode cX11_init 866 = .ok (.aload_n 0, 1) := by decide +kernel
theorem dX11_init_867 : decode cX11_init 867 = .ok (.iconst 4, 1) := by decide +kernel
theorem dX11_init_868 : decode cX11_init 868 = .ok (.newarray .char, 2) := by decide +kernel
theorem dX11_init_870 : decode cX11_init 870 = .ok (.dup, 1) := by decide +kernel
theorem dX11_init_871 : decode cX11_init 871 = .ok (.iconst 0, 1) := by decide +kernel
theorem dX11_init_872 : decode cX11_init 872 = .ok (.bipush 107, 2) := by decide +kernel
theorem dX11_init_874 : decode cX11_init 874 = .ok (.castore, 1) := by decide +kernel
theorem dX11_init_875 : decode cX11_init 875 = .ok (.dup, 1) := by decide +kernel
theorem dX11_init_876 : decode cX11_init 876 = .ok (.iconst 1, 1) := by decide +kernel
theorem dX11_init_877 : decode cX11_init 877 = .ok (.bipush 101, 2) := by decide +kernel
theorem dX11_init_879 : decode cX11_init 879 = .ok (.castore, 1) := by decide +kernel
theorem dX11_init_880 : decode cX11_init 880 = .ok (.dup, 1) := by decide +kernel
theorem dX11_init_881 : decode cX11_init 881 = .ok (.iconst 2, 1) := by decide +kernel
theorem dX11_init_882 : decode cX11_init 882 = .ok (.bipush 112, 2) := by decide +kernel
theorem dX11_init_884 : decode cX11_init 884 = .ok (.castore, 1) := by decide +kernel
theorem dX11_init_885 : decode cX11_init 885 = .ok (.dup, 1) := by decide +kernel
theorem dX11_init_886 : decode cX11_init 886 = .ok (.iconst 3, 1) := by decide +kernel
theorem dX11_init_887 : decode cX11_init 887 = .ok (.bipush 116, 2) := by decide +kernel
theorem dX11_init_889 : decode cX11_init 889 = .ok (.castore, 1) := by decide +kernel
theorem dX11_init_890 : decode cX11_init 890 = .ok (.putfield 108, 3) := by decide +kernel
theorem dX11_init_893 : decode cX11_init 893 = .ok (.aload_n 0, 1) := by decide +kernel
theorem dX11_init_894 : decode cX11_init 894 = .ok (.iconst 3, 1) := by decide +kernel
theorem dX11_init_895 : decode cX11_init 895 = .ok (.newarray .char, 2) := by decide +kernel
theorem dX11_init_897 : decode cX11_init 897 = .ok (.dup, 1) := by decide +kernel
theorem dX11_init_898 : decode cX11_init 898 = .ok (.iconst 0, 1) := by decide +kernel
theorem dX11_init_899 : decode cX11_init 899 = .ok (.bipush 109, 2) := by decide +kernel
theorem dX11_init_901 : decode cX11_init 901 = .ok (.castore, 1) := by decide +kernel
theorem dX11_init_902 : decode cX11_init 902 = .ok (.dup, 1) := by decide +kernel
theorem dX11_init_903 : decode cX11_init 903 = .ok (.iconst 1, 1) := by decide +kernel
theorem dX11_init_904 : decode cX11_init 904 = .ok (.bipush 105, 2) := by decide +kernel
theorem dX11_init_906 : decode cX11_init 906 = .ok (.castore, 1) := by decide +kernel
theorem dX11_init_907 : decode cX11_init 907 = .ok (.dup, 1) := by decide +kernel
theorem dX11_init_908 : decode cX11_init 908 = .ok (.iconst 2, 1) := by decide +kernel
theorem dX11_init_909 : decode cX11_init 909 = .ok (.bipush 110, 2) := by decide +kernel
theorem dX11_init_911 : decode cX11_init 911 = .ok (.castore, 1) := by decide +kernel
theorem dX11_init_912 : decode cX11_init 912 = .ok (.putfield 111, 3) := by decide +kernel
theorem dX11_init_915 : decode cX11_init 915 = .ok (.aload_n 0, 1) := by decide +kernel
theorem dX11_init_916 : decode cX11_init 916 = .ok (.iconst 3, 1) := by decide +kernel
theorem dX11_init_917 : decode cX11_init 917 = .ok (.newarray .char, 2) := by decide +kernel
theorem dX11_init_919 : decode cX11_init 919 = .ok (.dup, 1) := by decide +kernel
theorem dX11_init_920 : decode cX11_init 920 = .ok (.iconst 0, 1) := by decide +kernel
theorem dX11_init_921 : decode cX11_init 921 = .ok (.bipush 109, 2) := by decide +kernel
theorem dX11_init_923 : decode cX11_init 923 = .ok (.castore, 1) := by decide +kernel
theorem dX11_init_924 : decode cX11_init 924 = .ok (.dup, 1) := by decide +kernel
theorem dX11_init_925 : decode cX11_init 925 = .ok (.iconst 1, 1) := by decide +kernel
theorem dX11_init_926 : decode cX11_init 926 = .ok (.bipush 97, 2) := by decide +kernel
theorem dX11_init_928 : decode cX11_init 928 = .ok (.castore, 1) := by decide +kernel
theorem dX11_init_929 : decode cX11_init 929 = .ok (.dup, 1) := by decide +kernel
theorem dX11_init_930 : decode cX11_init 930 = .ok (.iconst 2, 1) := by decide +kernel
theorem dX11_init_931 : decode cX11_init 931 = .ok (.bipush 120, 2) := by decide +kernel
theorem dX11_init_933 : decode cX11_init 933 = .ok (.castore, 1) := by decide +kernel
theorem dX11_init_934 : decode cX11_init 934 = .ok (.putfield 114, 3) := by decide +kernel
theorem dX11_init_937 : decode cX11_init 937 = .ok (.aload_n 0, 1) := by decide +kernel
theorem dX11_init_938 : decode cX11_init 938 = .ok (.bipush 72, 2) := by decide +kernel
theorem dX11_init_940 : decode cX11_init 940 = .ok (.newarray .long, 2) := by decide +kernel
theorem dX11_init_942 : decode cX11_init 942 = .ok (.putfield 117, 3) := by decide +kernel
theorem dX11_init_945 : decode cX11_init 945 = .ok (.aload_n 0, 1) := by decide +kernel
theorem dX11_init_946 : decode cX11_init 946 = .ok (.bipush 6, 2) := by decide +kernel
theorem dX11_init_948 : decode cX11_init 948 = .ok (.newarray .int, 2) := by decide +kernel
theorem dX11_init_950 : decode cX11_init 950 = .ok (.putfield 121, 3) := by decide +kernel
theorem dX11_init_953 : decode cX11_init 953 = .ok (.aload_n 0, 1) := by decide +kernel
theorem dX11_init_954 : decode cX11_init 954 = .ok (.bipush 60, 2) := by decide +kernel
theorem dX11_init_956 : decode cX11_init 956 = .ok (.newarray .int, 2) := by decide +kernel
theorem dX11_init_958 : decode cX11_init 958 = .ok (.putfield 124, 3) := by decide +kernel
theorem dX11_init_961 : decode cX11_init 961 = .ok (.aload_n 0, 1) := by decide +kernel
theorem dX11_init_962 : decode cX11_init 962 = .ok (.bipush 32, 2) := by decide +kernel
theorem dX11_init_964 : decode cX11_init 964 = .ok (.newarray .int, 2) := by decide +kernel
theorem dX11_init_966 : decode cX11_init 966 = .ok (.putfield 127, 3) := by decide +kernel
theorem dX11_init_969 : decode cX11_init 969 = .ok (.aload_n 0, 1) := by decide +kernel
theorem dX11_init_970 : decode cX11_init 970 = .ok (.bipush 12, 2) := by decide +kernel
theorem dX11_init_972 : decode cX11_init 972 = .ok (.newarray .int, 2) := by decide +kernel
theorem dX11_init_974 : decode cX11_init 974 = .ok (.putfield 130, 3) := by decide +kernel
theorem dX11_init_977 : decode cX11_init 977 = .ok (.aload_n 0, 1) := by decide +kernel
theorem dX11_init_978 : decode cX11_init 978 = .ok (.bipush 12, 2) := by decide +kernel
theorem dX11_init_980 : decode cX11_init 980 = .ok (.newarray .int, 2) := by decide +kernel
theorem dX11_init_982 : decode cX11_init 982 = .ok (.putfield 133, 3) := by decide +kernel
theorem dX11_init_985 : decode cX11_init 985 = .ok (.aload_n 0, 1) := by decide +kernel
theorem dX11_init_986 : decode cX11_init 986 = .ok (.bipush 12, 2) := by decide +kernel
theorem dX11_init_988 : decode cX11_init 988 = .ok (.newarray .int, 2) := by decide +kernel
theorem dX11_init_990 : decode cX11_init 990 = .ok (.putfield 136, 3) := by decide +kernel
theorem dX11_init_993 : decode cX11_init 993 = .ok (.aload_n 0, 1) := by decide +kernel
theorem dX11_init_994 : decode cX11_init 994 = .ok (.bipush 6, 2) := by decide +kernel
theorem dX11_init_996 : decode cX11_init 996 = .ok (.newarray .int, 2) := by decide +kernel
theorem dX11_init_998 : decode cX11_init 998 = .ok (.putfield 139, 3) := by decide +kernel
theorem dX11_init_1001 : decode cX11_init 1001 = .ok (.aload_n 0, 1) := by decide +kernel
theorem dX11_init_1002 : decode cX11_init 1002 = .ok (.bipush 40, 2) := by decide +kernel
theorem dX11_init_1004 : decode cX11_init 1004 = .ok (.putfield 142, 3) := by decide +kernel
theorem dX11_init_1007 : decode cX11_init 1007 = .ok (.aload_n 0, 1) := by decide +kernel
theorem dX11_init_1008 : decode cX11_init 1008 = .ok (.sipush 3200, 3) := by decide +kernel
theorem dX11_init_1011 : decode cX11_init 1011 = .ok (.newarray .int, 2) := by decide +kernel
theorem dX11_init_1013 : decode cX11_init 1013 = .ok (.putfield 145, 3) := by decide +kernel
theorem dX11_init_1016 : decode cX11_init 1016 = .ok (.aload_n 0, 1) := by decide +kernel
theorem dX11_init_1017 : decode cX11_init 1017 = .ok (.sipush 1700, 3) := by decide +kernel
theorem dX11_init_1020 : decode cX11_init 1020 = .ok (.newarray .int, 2) := by decide +kernel
theorem dX11_init_1022 : decode cX11_init 1022 = .ok (.putfield 148, 3) := by decide +kernel
theorem dX11_init_1025 : decode cX11_init 1025 = .ok (.aload_n 0, 1) := by decide +kernel
theorem dX11_init_1026 : decode cX11_init 1026 = .ok (.iconst 2, 1) := by decide +kernel
theorem dX11_init_1027 : decode cX11_init 1027 = .ok (.newarray .int, 2) := by decide +kernel
theorem dX11_init_1029 : decode cX11_init 1029 = .ok (.putfield 151, 3) := by decide +kernel
theorem dX11_init_1032 : decode cX11_init 1032 = .ok (.aload_n 0, 1) := by decide +kernel
theorem dX11_init_1033 : decode cX11_init 1033 = .ok (.bipush 24, 2) := by decide +kernel
theorem dX11_init_1035 : decode cX11_init 1035 = .ok (.newarray .int, 2) := by decide +kernel
theorem dX11_init_1037 : decode cX11_init 1037 = .ok (.putfield 154, 3) := by decide +kernel
theorem dX11_init_1040 : decode cX11_init 1040 = .ok (.aload_n 0, 1) := by decide +kernel
theorem dX11_init_1041 : decode cX11_init 1041 = .ok (.bipush 24, 2) := by decide +kernel
theorem dX11_init_1043 : decode cX11_init 1043 = .ok (.newarray .int, 2) := by decide +kernel
theorem dX11_init_1045 : decode cX11_init 1045 = .ok (.putfield 157, 3) := by decide +kernel
theorem dX11_init_1048 : decode cX11_init 1048 = .ok (.aload_n 0, 1) := by decide +kernel
theorem dX11_init_1049 : decode cX11_init 1049 = .ok (.bipush 24, 2) := by decide +kernel
theorem dX11_init_1051 : decode cX11_init 1051 = .ok (.newarray .int, 2) := by decide +kernel
theorem dX11_init_1053 : decode cX11_init 1053 = .ok (.putfield 160, 3) := by decide +kernel
theorem dX11_init_1056 : decode cX11_init 1056 = .ok (.aload_n 0, 1) := by decide +kernel
theorem dX11_init_1057 : decode cX11_init 1057 = .ok (.bipush 24, 2) := by decide +kernel
theorem dX11_init_1059 : decode cX11_init 1059 = .ok (.newarray .int, 2) := by decide +kernel
theorem dX11_init_1061 : decode cX11_init 1061 = .ok (.putfield 163, 3) := by decide +kernel
theorem dX11_init_1064 : decode cX11_init 1064 = .ok (.aload_n 0, 1) := by decide +kernel
theorem dX11_init_1065 : decode cX11_init 1065 = .ok (.bipush 32, 2) := by decide +kernel
theorem dX11_init_1067 : decode cX11_init 1067 = .ok (.newarray .int, 2) := by decide +kernel
theorem dX11_init_1069 : decode cX11_init 1069 = .ok (.putfield 166, 3) := by decide +kernel
theorem dX11_init_1072 : decode cX11_init 1072 = .ok (.aload_n 0, 1) := by decide +kernel
theorem dX11_init_1073 : decode cX11_init 1073 = .ok (.bipush 32, 2) := by decide +kernel
theorem dX11_init_1075 : decode cX11_init 1075 = .ok (.newarray .int, 2) := by decide +kernel
theorem dX11_init_1077 : decode cX11_init 1077 = .ok (.putfield 169, 3) := by decide +kernel
theorem dX11_init_1080 : decode cX11_init 1080 = .ok (.aload_n 0, 1) := by decide +kernel
theorem dX11_init_1081 : decode cX11_init 1081 = .ok (.bipush 32, 2) := by decide +kernel
theorem dX11_init_1083 : decode cX11_init 1083 = .ok (.newarray .int, 2) := by decide +kernel
theorem dX11_init_1085 : decode cX11_init 1085 = .ok (.putfield 172, 3) := by decide +kernel
theorem dX11_init_1088 : decode cX11_init 1088 = .ok (.aload_n 0, 1) := by decide +kernel
theorem dX11_init_1089 : decode cX11_init 1089 = .ok (.bipush 32, 2) := by decide +kernel
theorem dX11_init_1091 : decode cX11_init 1091 = .ok (.newarray .int, 2) := by decide +kernel
theorem dX11_init_1093 : decode cX11_init 1093 = .ok (.putfield 175, 3) := by decide +kernel
theorem dX11_init_1096 : decode cX11_init 1096 = .ok (.aload_n 0, 1) := by decide +kernel
theorem dX11_init_1097 : decode cX11_init 1097 = .ok (.bipush 12, 2) := by decide +kernel
theorem dX11_init_1099 : decode cX11_init 1099 = .ok (.newarray .int, 2) := by decide +kernel
theorem dX11_init_1101 : decode cX11_init 1101 = .ok (.putfield 178, 3) := by decide +kernel
theorem dX11_init_1104 : decode cX11_init 1104 = .ok (.aload_n 0, 1) := by decide +kernel
theorem dX11_init_1105 : decode cX11_init 1105 = .ok (.bipush 12, 2) := by decide +kernel
theorem dX11_init_1107 : decode cX11_init 1107 = .ok (.newarray .int, 2) := by decide +kernel
theorem dX11_init_1109 : decode cX11_init 1109 = .ok (.putfield 181, 3) := by decide +kernel
theorem dX11_init_1112 : decode cX11_init 1112 = .ok (.aload_n 0, 1) := by decide +kernel
theorem dX11_init_1113 : decode cX11_init 1113 = .ok (.bipush 12, 2) := by decide +kernel
theorem dX11_init_1115 : decode cX11_init 1115 = .ok (.newarray .int, 2) := by decide +kernel
theorem dX11_init_1117 : decode cX11_init 1117 = .ok (.putfield 184, 3) := by decide +kernel
theorem dX11_init_1120 : decode cX11_init 1120 = .ok (.aload_n 0, 1) := by decide +kernel
theorem dX11_init_1121 : decode cX11_init 1121 = .ok (.bipush 12, 2) := by decide +kernel
theorem dX11_init_1123 : decode cX11_init 1123 = .ok (.newarray .int, 2) := by decide +kernel
theorem dX11_init_1125 : decode cX11_init 1125 = .ok (.putfield 187, 3) := by decide +kernel
theorem dX11_init_1128 : decode cX11_init 1128 = .ok (.aload_n 0, 1) := by decide +kernel
theorem dX11_init_1129 : decode cX11_init 1129 = .ok (.bipush 6, 2) := by decide +kernel
theorem dX11_init_1131 : decode cX11_init 1131 = .ok (.newarray .int, 2) := by decide +kernel
theorem dX11_init_1133 : decode cX11_init 1133 = .ok (.putfield 190, 3) := by decide +kernel
theorem dX11_init_1136 : decode cX11_init 1136 = .ok (.aload_n 0, 1) := by decide +kernel
theorem dX11_init_1137 : decode cX11_init 1137 = .ok (.bipush 12, 2) := by decide +kernel
theorem dX11_init_1139 : decode cX11_init 1139 = .ok (.newarray .int, 2) := by decide +kernel
theorem dX11_init_1141 : decode cX11_init 1141 = .ok (.putfield 193, 3) := by decide +kernel
theorem dX11_init_1144 : decode cX11_init 1144 = .ok (.aload_n 0, 1) := by decide +kernel
theorem dX11_init_1145 : decode cX11_init 1145 = .ok (.bipush 12, 2) := by decide +kernel
theorem dX11_init_1147 : decode cX11_init 1147 = .ok (.newarray .int, 2) := by decide +kernel
theorem dX11_init_1149 : decode cX11_init 1149 = .ok (.putfield 196, 3) := by decide +kernel
theorem dX11_init_1152 : decode cX11_init 1152 = .ok (.aload_n 0, 1) := by decide +kernel
theorem dX11_init_1153 : decode cX11_init 1153 = .ok (.iconst 5, 1) := by decide +kernel
theorem dX11_init_1154 : decode cX11_init 1154 = .ok (.newarray .int, 2) := by decide +kernel
theorem dX11_init_1156 : decode cX11_init 1156 = .ok (.putfield 199, 3) := by decide +kernel
theorem dX11_init_1159 : decode cX11_init 1159 = .ok (.aload_n 0, 1) := by decide +kernel
theorem dX11_init_1160 : decode cX11_init 1160 = .ok (.bipush 12, 2) := by decide +kernel
theorem dX11_init_1162 : decode cX11_init 1162 = .ok (.newarray .int, 2) := by decide +kernel
theorem dX11_init_1164 : decode cX11_init 1164 = .ok (.putfield 202, 3) := by decide +kernel
theorem dX11_init_1167 : decode cX11_init 1167 = .ok (.aload_n 0, 1) := by decide +kernel
theorem dX11_init_1168 : decode cX11_init 1168 = .ok (.sipush 1700, 3) := by decide +kernel
theorem dX11_init_1171 : decode cX11_init 1171 = .ok (.newarray .long, 2) := by decide +kernel
theorem dX11_init_1173 : decode cX11_init 1173 = .ok (.putfield 205, 3) := by decide +kernel
theorem dX11_init_1176 : decode cX11_init 1176 = .ok (.aload_n 0, 1) := by decide +kernel
theorem dX11_init_1177 : decode cX11_init 1177 = .ok (.lconst 1, 1) := by decide +kernel
theorem dX11_init_1178 : decode cX11_init 1178 = .ok (.putfield 208, 3) := by decide +kernel
theorem dX11_init_1181 : decode cX11_init 1181 = .ok (.aload_n 0, 1) := by decide +kernel
theorem dX11_init_1182 : decode cX11_init 1182 = .ok (.bipush 12, 2) := by decide +kernel
theorem dX11_init_1184 : decode cX11_init 1184 = .ok (.newarray .int, 2) := by decide +kernel
theorem dX11_init_1186 : decode cX11_init 1186 = .ok (.putfield 212, 3) := by decide +kernel
theorem dX11_init_1189 : decode cX11_init 1189 = .ok (.aload_n 0, 1) := by decide +kernel
theorem dX11_init_1190 : decode cX11_init 1190 = .ok (.bipush 12, 2) := by decide +kernel
theorem dX11_init_1192 : decode cX11_init 1192 = .ok (.newarray .int, 2) := by decide +kernel
theorem dX11_init_1194 : decode cX11_init 1194 = .ok (.putfield 215, 3) := by decide +kernel
theorem dX11_init_1197 : decode cX11_init 1197 = .ok (.aload_n 0, 1) := by decide +kernel
theorem dX11_init_1198 : decode cX11_init 1198 = .ok (.bipush 60, 2) := by decide +kernel
theorem dX11_init_1200 : decode cX11_init 1200 = .ok (.newarray .int, 2) := by decide +kernel
theorem dX11_init_1202 : decode cX11_init 1202 = .ok (.putfield 218, 3) := by decide +kernel
theorem dX11_init_1205 : decode cX11_init 1205 = .ok (.return_, 1) := by decide +kernel
theorem dX11_isIn_0 : decode cX11_isIn 0 = .ok (.lload_n 0, 1) := by decide +kernel
theorem dX11_isIn_1 : decode cX11_isIn 1 = .ok (.lload_n 2, 1) := by decide +kernel
theorem dX11_isIn_2 : decode cX11_isIn 2 = .ok (.lcmp, 1) := by decide +kernel
theorem dX11_isIn_3 : decode cX11_isIn 3 = .ok (.ifCond .lt 14, 3) := by decide +kernel
theorem dX11_isIn_6 : decode cX11_isIn 6 = .ok (.lload_n 0, 1) := by decide +kernel
theorem dX11_isIn_7 : decode cX11_isIn 7 = .ok (.lload 4, 2) := by decide +kernel
theorem dX11_isIn_9 : decode cX11_isIn 9 = .ok (.lcmp, 1) := by decide +kernel
theorem dX11_isIn_10 : decode cX11_isIn 10 = .ok (.ifCond .gt 7, 3) := by decide +kernel
theorem dX11_isIn_13 : decode cX11_isIn 13 = .ok (.iconst 1, 1) := by decide +kernel
theorem dX11_isIn_14 : decode cX11_isIn 14 = .ok (.goto 4, 3) := by decide +kernel
theorem dX11_isIn_17 : decode cX11_isIn 17 = .ok (.iconst 0, 1) := by decide +kernel
theorem dX11_isIn_18 : decode cX11_isIn 18 = .ok (.ireturn, 1) := by decide +kernel
theorem dX11_feed_0 : decode cX11_feed 0 = .ok (.aload_n 0, 1) := by decide +kernel
theorem dX11_feed_1 : decode cX11_feed 1 = .ok (.getfield 221, 3) := by decide +kernel
theorem dX11_feed_4 : decode cX11_feed 4 = .ok (.bipush 20, 2) := by decide +kernel
theorem dX11_feed_6 : decode cX11_feed 6 = .ok (.iadd, 1) := by decide +kernel
theorem dX11_feed_7 : decode cX11_feed 7 = .ok (.sipush 1600, 3) := by decide +kernel
theorem dX11_feed_10 : decode cX11_feed 10 = .ok (.if_icmp .le 5, 3) := by decide +kernel
theorem dX11_feed_13 : decode cX11_feed 13 = .ok (.iconst (-1), 1) := by decide +kernel
theorem dX11_feed_14 : decode cX11_feed 14 = .ok (.ireturn, 1) := by decide +kernel
theorem dX11_feed_15 : decode cX11_feed 15 = .ok (.iconst 0, 1) := by decide +kernel
theorem dX11_feed_16 : decode cX11_feed 16 = .ok (.istore 6, 2) := by decide +kernel
theorem dX11_feed_18 : decode cX11_feed 18 = .ok (.iload 6, 2) := by decide +kernel
theorem dX11_feed_20 : decode cX11_feed 20 = .ok (.bipush 20, 2) := by decide +kernel
theorem dX11_feed_22 : decode cX11_feed 22 = .ok (.if_icmp .ge 92, 3) := by decide +kernel
theorem dX11_feed_25 : decode cX11_feed 25 = .ok (.iload 6, 2) := by decide +kernel
theorem dX11_feed_27 : decode cX11_feed 27 = .ok (.iconst 4, 1) := by decide +kernel
theorem dX11_feed_28 : decode cX11_feed 28 = .ok (.if_icmp .ge 7, 3) := by decide +kernel
theorem dX11_feed_31 : decode cX11_feed 31 = .ok (.iload_n 1, 1) := by decide +kernel
theorem dX11_feed_32 : decode cX11_feed 32 = .ok (.goto 39, 3) := by decide +kernel
theorem dX11_feed_35 : decode cX11_feed 35 = .ok (.iload 6, 2) := by decide +kernel
theorem dX11_feed_37 : decode cX11_feed 37 = .ok (.bipush 8, 2) := by decide +kernel
theorem dX11_feed_39 : decode cX11_feed 39 = .ok (.if_icmp .ge 7, 3) := by decide +kernel
theorem dX11_feed_42 : decode cX11_feed 42 = .ok (.iload_n 2, 1) := by decide +kernel
theorem dX11_feed_43 : decode cX11_feed 43 = .ok (.goto 28, 3) := by decide +kernel
theorem dX11_feed_46 : decode cX11_feed 46 = .ok (.iload 6, 2) := by decide +kernel
theorem dX11_feed_48 : decode cX11_feed 48 = .ok (.bipush 12, 2) := by decide +kernel
theorem dX11_feed_50 : decode cX11_feed 50 = .ok (.if_icmp .ge 7, 3) := by decide +kernel
theorem dX11_feed_53 : decode cX11_feed 53 = .ok (.iload_n 3, 1) := by decide +kernel
theorem dX11_feed_54 : decode cX11_feed 54 = .ok (.goto 17, 3) := by decide +kernel
theorem dX11_feed_57 : decode cX11_feed 57 = .ok (.iload 6, 2) := by decide +kernel
theorem dX11_feed_59 : decode cX11_feed 59 = .ok (.bipush 16, 2) := by decide +kernel
theorem dX11_feed_61 : decode cX11_feed 61 = .ok (.if_icmp .ge 8, 3) := by decide +kernel
theorem dX11_feed_64 : decode cX11_feed 64 = .ok (.iload 4, 2) := by decide +kernel
theorem dX11_feed_66 : decode cX11_feed 66 = .ok (.goto 5, 3) := by decide +kernel
theorem dX11_feed_69 : decode cX11_feed 69 = .ok (.iload 5, 2) := by decide +kernel
theorem dX11_feed_71 : decode cX11_feed 71 = .ok (.istore 7, 2) := by decide +kernel
theorem dX11_feed_73 : decode cX11_feed 73 = .ok (.aload_n 0, 1) := by decide +kernel
theorem dX11_feed_74 : decode cX11_feed 74 = .ok (.getfield 7, 3) := by decide +kernel
theorem dX11_feed_77 : decode cX11_feed 77 = .ok (.aload_n 0, 1) := by decide +kernel
theorem dX11_feed_78 : decode cX11_feed 78 = .ok (.getfield 221, 3) := by decide +kernel
theorem dX11_feed_81 : decode cX11_feed 81 = .ok (.iload 7, 2) := by decide +kernel
theorem dX11_feed_83 : decode cX11_feed 83 = .ok (.bipush 8, 2) := by decide +kernel
theorem dX11_feed_85 : decode cX11_feed 85 = .ok (.iconst 3, 1) := by decide +kernel
theorem dX11_feed_86 : decode cX11_feed 86 = .ok (.iload 6, 2) := by decide +kernel
theorem dX11_feed_88 : decode cX11_feed 88 = .ok (.iconst 4, 1) := by decide +kernel
theorem dX11_feed_89 : decode cX11_feed 89 = .ok (.irem, 1) := by decide +kernel
theorem dX11_feed_90 : decode cX11_feed 90 = .ok (.isub, 1) := by decide +kernel
theorem dX11_feed_91 : decode cX11_feed 91 = .ok (.imul, 1) := by decide +kernel
theorem dX11_feed_92 : decode cX11_feed 92 = .ok (.ishr, 1) := by decide +kernel
theorem dX11_feed_93 : decode cX11_feed 93 = .ok (.sipush 255, 3) := by decide +kernel
theorem dX11_feed_96 : decode cX11_feed 96 = .ok (.iand, 1) := by decide +kernel
theorem dX11_feed_97 : decode cX11_feed 97 = .ok (.iastore, 1) := by decide +kernel
theorem dX11_feed_98 : decode cX11_feed 98 = .ok (.aload_n 0, 1) := by decide +kernel
theorem dX11_feed_99 : decode cX11_feed 99 = .ok (.dup, 1) := by decide +kernel
theorem dX11_feed_100 : decode cX11_feed 100 = .ok (.getfield 221, 3) := by decide +kernel
theorem dX11_feed_103 : decode cX11_feed 103 = .ok (.iconst 1, 1) := by decide +kernel
theorem dX11_feed_104 : decode cX11_feed 104 = .ok (.iadd, 1) := by decide +kernel
theorem dX11_feed_105 : decode cX11_feed 105 = .ok (.putfield 221, 3) := by decide +kernel
theorem dX11_feed_108 : decode cX11_feed 108 = .ok (.iinc 6 1, 3) := by decide +kernel
theorem dX11_feed_111 : decode cX11_feed 111 = .ok (.goto (-93), 3) := by decide +kernel
theorem dX11_feed_114 : decode cX11_feed 114 = .ok (.aload_n 0, 1) := by decide +kernel
theorem dX11_feed_115 : decode cX11_feed 115 = .ok (.getfield 221, 3) := by decide +kernel
theorem dX11_feed_118 : decode cX11_feed 118 = .ok (.ireturn, 1) := by decide +kernel
theorem dX11_end_0 : decode cX11_end 0 = .ok (.iload_n 1, 1) := by decide +kernel
theorem dX11_end_1 : decode cX11_end 1 = .ok (.ifCond .lt 11, 3) := by decide +kernel
theorem dX11_end_4 : decode cX11_end 4 = .ok (.iload_n 1, 1) := by decide +kernel
theorem dX11_end_5 : decode cX11_end 5 = .ok (.aload_n 0, 1) := by decide +kernel
theorem dX11_end_6 : decode cX11_end 6 = .ok (.getfield 221, 3) := by decide +kernel
theorem dX11_end_9 : decode cX11_end 9 = .ok (.if_icmp .le 5, 3) := by decide +kernel
theorem dX11_end_12 : decode cX11_end 12 = .ok (.iconst 0, 1) := by decide +kernel
theorem dX11_end_13 : decode cX11_end 13 = .ok (.ireturn, 1) := by decide +kernel
theorem dX11_end_14 : decode cX11_end 14 = .ok (.aload_n 0, 1) := by decide +kernel
theorem dX11_end_15 : decode cX11_end 15 = .ok (.iload_n 1, 1) := by decide +kernel
theorem dX11_end_16 : decode cX11_end 16 = .ok (.putfield 221, 3) := by decide +kernel
theorem dX11_end_19 : decode cX11_end 19 = .ok (.iconst 1, 1) := by decide +kernel
theorem dX11_end_20 : decode cX11_end 20 = .ok (.ireturn, 1) := by decide +kernel
theorem dX11_fail_0 : decode cX11_fail 0 = .ok (.aload_n 0, 1) := by decide +kernel
theorem dX11_fail_1 : decode cX11_fail 1 = .ok (.getfield 224, 3) := by decide +kernel
theorem dX11_fail_4 : decode cX11_fail 4 = .ok (.ifCond .eq 4, 3) := by decide +kernel
theorem dX11_fail_7 : decode cX11_fail 7 = .ok (.return_, 1) := by decide +kernel
theorem dX11_fail_8 : decode cX11_fail 8 = .ok (.aload_n 0, 1) := by decide +kernel
theorem dX11_fail_9 : decode cX11_fail 9 = .ok (.iload_n 1, 1) := by decide +kernel
theorem dX11_fail_10 : decode cX11_fail 10 = .ok (.putfield 224, 3) := by decide +kernel
theorem dX11_fail_13 : decode cX11_fail 13 = .ok (.aload_n 0, 1) := by decide +kernel
theorem dX11_fail_14 : decode cX11_fail 14 = .ok (.iload_n 2, 1) := by decide +kernel
theorem dX11_fail_15 : decode cX11_fail 15 = .ok (.putfield 227, 3) := by decide +kernel
theorem dX11_fail_18 : decode cX11_fail 18 = .ok (.return_, 1) := by decide +kernel
theorem dX11_isLetter_0 : decode cX11_isLetter 0 = .ok (.iload_n 0, 1) := by decide +kernel
theorem dX11_isLetter_1 : decode cX11_isLetter 1 = .ok (.bipush 97, 2) := by decide +kernel
theorem dX11_isLetter_3 : decode cX11_isLetter 3 = .ok (.if_icmp .lt 13, 3) := by decide +kernel
theorem dX11_isLetter_6 : decode cX11_isLetter 6 = .ok (.iload_n 0, 1) := by decide +kernel
theorem dX11_isLetter_7 : decode cX11_isLetter 7 = .ok (.bipush 122, 2) := by decide +kernel
theorem dX11_isLetter_9 : decode cX11_isLetter 9 = .ok (.if_icmp .gt 7, 3) := by decide +kernel
theorem dX11_isLetter_12 : decode cX11_isLetter 12 = .ok (.iconst 1, 1) := by decide +kernel
theorem dX11_isLetter_13 : decode cX11_isLetter 13 = .ok (.goto 4, 3) := by decide +kernel
theorem dX11_isLetter_16 : decode cX11_isLetter 16 = .ok (.iconst 0, 1) := by decide +kernel
theorem dX11_isLetter_17 : decode cX11_isLetter 17 = .ok (.ireturn, 1) := by decide +kernel
theorem dX11_isDigit_0 : decode cX11_isDigit 0 = .ok (.iload_n 0, 1) := by decide +kernel
theorem dX11_isDigit_1 : decode cX11_isDigit 1 = .ok (.bipush 48, 2) := by decide +kernel
theorem dX11_isDigit_3 : decode cX11_isDigit 3 = .ok (.if_icmp .lt 13, 3) := by decide +kernel
theorem dX11_isDigit_6 : decode cX11_isDigit 6 = .ok (.iload_n 0, 1) := by decide +kernel
theorem dX11_isDigit_7 : decode cX11_isDigit 7 = .ok (.bipush 57, 2) := by decide +kernel
theorem dX11_isDigit_9 : decode cX11_isDigit 9 = .ok (.if_icmp .gt 7, 3) := by decide +kernel
theorem dX11_isDigit_12 : decode cX11_isDigit 12 = .ok (.iconst 1, 1) := by decide +kernel
theorem dX11_isDigit_13 : decode cX11_isDigit 13 = .ok (.goto 4, 3) := by decide +kernel
theorem dX11_isDigit_16 : decode cX11_isDigit 16 = .ok (.iconst 0, 1) := by decide +kernel
theorem dX11_isDigit_17 : decode cX11_isDigit 17 = .ok (.ireturn, 1) := by decide +kernel
theorem dX11_look_0 : decode cX11_look 0 = .ok (.aload_n 0, 1) := by decide +kernel
theorem dX11_look_1 : decode cX11_look 1 = .ok (.getfield 230, 3) := by decide +kernel
theorem dX11_look_4 : decode cX11_look 4 = .ok (.aload_n 0, 1) := by decide +kernel
theorem dX11_look_5 : decode cX11_look 5 = .ok (.getfield 233, 3) := by decide +kernel
theorem dX11_look_8 : decode cX11_look 8 = .ok (.if_icmp .ge 44, 3) := by decide +kernel
theorem dX11_look_11 : decode cX11_look 11 = .ok (.aload_n 0, 1) := by decide +kernel
theorem dX11_look_12 : decode cX11_look 12 = .ok (.getfield 7, 3) := by decide +kernel
theorem dX11_look_15 : decode cX11_look 15 = .ok (.aload_n 0, 1) := by decide +kernel
theorem dX11_look_16 : decode cX11_look 16 = .ok (.getfield 230, 3) := by decide +kernel
theorem dX11_look_19 : decode cX11_look 19 = .ok (.iaload, 1) := by decide +kernel
theorem dX11_look_20 : decode cX11_look 20 = .ok (.bipush 10, 2) := by decide +kernel
theorem dX11_look_22 : decode cX11_look 22 = .ok (.if_icmp .eq 17, 3) := by decide +kernel
theorem dX11_look_25 : decode cX11_look 25 = .ok (.aload_n 0, 1) := by decide +kernel
theorem dX11_look_26 : decode cX11_look 26 = .ok (.getfield 7, 3) := by decide +kernel
theorem dX11_look_29 : decode cX11_look 29 = .ok (.aload_n 0, 1) := by decide +kernel
theorem dX11_look_30 : decode cX11_look 30 = .ok (.getfield 230, 3) := by decide +kernel
theorem dX11_look_33 : decode cX11_look 33 = .ok (.iaload, 1) := by decide +kernel
theorem dX11_look_34 : decode cX11_look 34 = .ok (.bipush 32, 2) := by decide +kernel
theorem dX11_look_36 : decode cX11_look 36 = .ok (.if_icmp .ne 16, 3) := by decide +kernel
theorem dX11_look_39 : decode cX11_look 39 = .ok (.aload_n 0, 1) := by decide +kernel
theorem dX11_look_40 : decode cX11_look 40 = .ok (.dup, 1) := by decide +kernel
theorem dX11_look_41 : decode cX11_look 41 = .ok (.getfield 230, 3) := by decide +kernel
theorem dX11_look_44 : decode cX11_look 44 = .ok (.iconst 1, 1) := by decide +kernel
theorem dX11_look_45 : decode cX11_look 45 = .ok (.iadd, 1) := by decide +kernel
theorem dX11_look_46 : decode cX11_look 46 = .ok (.putfield 230, 3) := by decide +kernel
theorem dX11_look_49 : decode cX11_look 49 = .ok (.goto (-49), 3) := by decide +kernel
theorem dX11_look_52 : decode cX11_look 52 = .ok (.aload_n 0, 1) := by decide +kernel
theorem dX11_look_53 : decode cX11_look 53 = .ok (.getfield 230, 3) := by decide +kernel
theorem dX11_look_56 : decode cX11_look 56 = .ok (.aload_n 0, 1) := by decide +kernel
theorem dX11_look_57 : decode cX11_look 57 = .ok (.getfield 233, 3) := by decide +kernel
theorem dX11_look_60 : decode cX11_look 60 = .ok (.if_icmp .ge 15, 3) := by decide +kernel
theorem dX11_look_63 : decode cX11_look 63 = .ok (.aload_n 0, 1) := by decide +kernel
theorem dX11_look_64 : decode cX11_look 64 = .ok (.getfield 7, 3) := by decide +kernel
theorem dX11_look_67 : decode cX11_look 67 = .ok (.aload_n 0, 1) := by decide +kernel
theorem dX11_look_68 : decode cX11_look 68 = .ok (.getfield 230, 3) := by decide +kernel
theorem dX11_look_71 : decode cX11_look 71 = .ok (.iaload, 1) := by decide +kernel
theorem dX11_look_72 : decode cX11_look 72 = .ok (.goto 4, 3) := by decide +kernel
theorem dX11_look_75 : decode cX11_look 75 = .ok (.iconst (-1), 1) := by decide +kernel
theorem dX11_look_76 : decode cX11_look 76 = .ok (.ireturn, 1) := by decide +kernel
theorem dX11_isHere_0 : decode cX11_isHere 0 = .ok (.aload_n 0, 1) := by decide +kernel
theorem dX11_isHere_1 : decode cX11_isHere 1 = .ok (.getfield 224, 3) := by decide +kernel
theorem dX11_isHere_4 : decode cX11_isHere 4 = .ok (.ifCond .ne 24, 3) := by decide +kernel
theorem dX11_isHere_7 : decode cX11_isHere 7 = .ok (.aload_n 0, 1) := by decide +kernel
theorem dX11_isHere_8 : decode cX11_isHere 8 = .ok (.invokevirtual 236, 3) := by decide +kernel
theorem dX11_isHere_11 : decode cX11_isHere 11 = .ok (.invokestatic 240, 3) := by decide +kernel
theorem dX11_isHere_14 : decode cX11_isHere 14 = .ok (.ifCond .eq 14, 3) := by decide +kernel
theorem dX11_isHere_17 : decode cX11_isHere 17 = .ok (.aload_n 0, 1) := by decide +kernel
theorem dX11_isHere_18 : decode cX11_isHere 18 = .ok (.getfield 230, 3) := by decide +kernel
theorem dX11_isHere_21 : decode cX11_isHere 21 = .ok (.aload_n 0, 1) := by decide +kernel
theorem dX11_isHere_22 : decode cX11_isHere 22 = .ok (.getfield 244, 3) := by decide +kernel
theorem dX11_isHere_25 : decode cX11_isHere 25 = .ok (.if_icmp .ne 5, 3) := by decide +kernel
theorem dX11_isHere_28 : decode cX11_isHere 28 = .ok (.iconst 0, 1) := by decide +kernel
theorem dX11_isHere_29 : decode cX11_isHere 29 = .ok (.ireturn, 1) := by decide +kernel
theorem dX11_isHere_30 : decode cX11_isHere 30 = .ok (.aload_n 0, 1) := by decide +kernel
theorem dX11_isHere_31 : decode cX11_isHere 31 = .ok (.getfield 230, 3) := by decide +kernel
theorem dX11_isHere_34 : decode cX11_isHere 34 = .ok (.istore_n 2, 1) := by decide +kernel
theorem dX11_isHere_35 : decode cX11_isHere 35 = .ok (.iload_n 2, 1) := by decide +kernel
theorem dX11_isHere_36 : decode cX11_isHere 36 = .ok (.aload_n 0, 1) := by decide +kernel
theorem dX11_isHere_37 : decode cX11_isHere 37 = .ok (.getfield 233, 3) := by decide +kernel
theorem dX11_isHere_40 : decode cX11_isHere 40 = .ok (.if_icmp .ge 21, 3) := by decide +kernel
theorem dX11_isHere_43 : decode cX11_isHere 43 = .ok (.aload_n 0, 1) := by decide +kernel
theorem dX11_isHere_44 : decode cX11_isHere 44 = .ok (.getfield 7, 3) := by decide +kernel
theorem dX11_isHere_47 : decode cX11_isHere 47 = .ok (.iload_n 2, 1) := by decide +kernel
theorem dX11_isHere_48 : decode cX11_isHere 48 = .ok (.iaload, 1) := by decide +kernel
theorem dX11_isHere_49 : decode cX11_isHere 49 = .ok (.invokestatic 240, 3) := by decide +kernel
theorem dX11_isHere_52 : decode cX11_isHere 52 = .ok (.ifCond .eq 9, 3) := by decide +kernel
theorem dX11_isHere_55 : decode cX11_isHere 55 = .ok (.iinc 2 1, 3) := by decide +kernel
theorem dX11_isHere_58 : decode cX11_isHere 58 = .ok (.goto (-23), 3) := by decide +kernel
theorem dX11_isHere_61 : decode cX11_isHere 61 = .ok (.iload_n 2, 1) := by decide +kernel
theorem dX11_isHere_62 : decode cX11_isHere 62 = .ok (.aload_n 0, 1) := by decide +kernel
theorem dX11_isHere_63 : decode cX11_isHere 63 = .ok (.getfield 230, 3) := by decide +kernel
theorem dX11_isHere_66 : decode cX11_isHere 66 = .ok (.isub, 1) := by decide +kernel
theorem dX11_isHere_67 : decode cX11_isHere 67 = .ok (.aload_n 1, 1) := by decide +kernel
theorem dX11_isHere_68 : decode cX11_isHere 68 = .ok (.arraylength, 1) := by decide +kernel
theorem dX11_isHere_69 : decode cX11_isHere 69 = .ok (.if_icmp .eq 5, 3) := by decide +kernel
theorem dX11_isHere_72 : decode cX11_isHere 72 = .ok (.iconst 0, 1) := by decide +kernel
theorem dX11_isHere_73 : decode cX11_isHere 73 = .ok (.ireturn, 1) := by decide +kernel
theorem dX11_isHere_74 : decode cX11_isHere 74 = .ok (.iconst 0, 1) := by decide +kernel
theorem dX11_isHere_75 : decode cX11_isHere 75 = .ok (.istore_n 3, 1) := by decide +kernel
theorem dX11_isHere_76 : decode cX11_isHere 76 = .ok (.iload_n 3, 1) := by decide +kernel
theorem dX11_isHere_77 : decode cX11_isHere 77 = .ok (.aload_n 1, 1) := by decide +kernel
theorem dX11_isHere_78 : decode cX11_isHere 78 = .ok (.arraylength, 1) := by decide +kernel
theorem dX11_isHere_79 : decode cX11_isHere 79 = .ok (.if_icmp .ge 28, 3) := by decide +kernel
theorem dX11_isHere_82 : decode cX11_isHere 82 = .ok (.aload_n 0, 1) := by decide +kernel
theorem dX11_isHere_83 : decode cX11_isHere 83 = .ok (.getfield 7, 3) := by decide +kernel
theorem dX11_isHere_86 : decode cX11_isHere 86 = .ok (.aload_n 0, 1) := by decide +kernel
theorem dX11_isHere_87 : decode cX11_isHere 87 = .ok (.getfield 230, 3) := by decide +kernel
theorem dX11_isHere_90 : decode cX11_isHere 90 = .ok (.iload_n 3, 1) := by decide +kernel
theorem dX11_isHere_91 : decode cX11_isHere 91 = .ok (.iadd, 1) := by decide +kernel
theorem dX11_isHere_92 : decode cX11_isHere 92 = .ok (.iaload, 1) := by decide +kernel
theorem dX11_isHere_93 : decode cX11_isHere 93 = .ok (.aload_n 1, 1) := by decide +kernel
theorem dX11_isHere_94 : decode cX11_isHere 94 = .ok (.iload_n 3, 1) := by decide +kernel
theorem dX11_isHere_95 : decode cX11_isHere 95 = .ok (.caload, 1) := by decide +kernel
theorem dX11_isHere_96 : decode cX11_isHere 96 = .ok (.if_icmp .eq 5, 3) := by decide +kernel
theorem dX11_isHere_99 : decode cX11_isHere 99 = .ok (.iconst 0, 1) := by decide +kernel
theorem dX11_isHere_100 : decode cX11_isHere 100 = .ok (.ireturn, 1) := by decide +kernel
theorem dX11_isHere_101 : decode cX11_isHere 101 = .ok (.iinc 3 1, 3) := by decide +kernel
theorem dX11_isHere_104 : decode cX11_isHere 104 = .ok (.goto (-28), 3) := by decide +kernel
theorem dX11_isHere_107 : decode cX11_isHere 107 = .ok (.iconst 1, 1) := by decide +kernel
theorem dX11_isHere_108 : decode cX11_isHere 108 = .ok (.ireturn, 1) := by decide +kernel
theorem dX11_takes_0 : decode cX11_takes 0 = .ok (.aload_n 0, 1) := by decide +kernel
theorem dX11_takes_1 : decode cX11_takes 1 = .ok (.aload_n 1, 1) := by decide +kernel
theorem dX11_takes_2 : decode cX11_takes 2 = .ok (.invokevirtual 247, 3) := by decide +kernel
theorem dX11_takes_5 : decode cX11_takes 5 = .ok (.ifCond .ne 5, 3) := by decide +kernel
theorem dX11_takes_8 : decode cX11_takes 8 = .ok (.iconst 0, 1) := by decide +kernel
theorem dX11_takes_9 : decode cX11_takes 9 = .ok (.ireturn, 1) := by decide +kernel
theorem dX11_takes_10 : decode cX11_takes 10 = .ok (.aload_n 0, 1) := by decide +kernel
theorem dX11_takes_11 : decode cX11_takes 11 = .ok (.dup, 1) := by decide +kernel
theorem dX11_takes_12 : decode cX11_takes 12 = .ok (.getfield 230, 3) := by decide +kernel
theorem dX11_takes_15 : decode cX11_takes 15 = .ok (.aload_n 1, 1) := by decide +kernel
theorem dX11_takes_16 : decode cX11_takes 16 = .ok (.arraylength, 1) := by decide +kernel
theorem dX11_takes_17 : decode cX11_takes 17 = .ok (.iadd, 1) := by decide +kernel
theorem dX11_takes_18 : decode cX11_takes 18 = .ok (.putfield 230, 3) := by decide +kernel
theorem dX11_takes_21 : decode cX11_takes 21 = .ok (.aload_n 0, 1) := by decide +kernel
theorem dX11_takes_22 : decode cX11_takes 22 = .ok (.aload_n 0, 1) := by decide +kernel
theorem dX11_takes_23 : decode cX11_takes 23 = .ok (.getfield 230, 3) := by decide +kernel
theorem dX11_takes_26 : decode cX11_takes 26 = .ok (.putfield 244, 3) := by decide +kernel
theorem dX11_takes_29 : decode cX11_takes 29 = .ok (.iconst 1, 1) := by decide +kernel
theorem dX11_takes_30 : decode cX11_takes 30 = .ok (.ireturn, 1) := by decide +kernel
theorem dX11_asks_0 : decode cX11_asks 0 = .ok (.aload_n 0, 1) := by decide +kernel
theorem dX11_asks_1 : decode cX11_asks 1 = .ok (.getfield 224, 3) := by decide +kernel
theorem dX11_asks_4 : decode cX11_asks 4 = .ok (.ifCond .ne 20, 3) := by decide +kernel
theorem dX11_asks_7 : decode cX11_asks 7 = .ok (.aload_n 0, 1) := by decide +kernel
theorem dX11_asks_8 : decode cX11_asks 8 = .ok (.aload_n 1, 1) := by decide +kernel
theorem dX11_asks_9 : decode cX11_asks 9 = .ok (.invokevirtual 251, 3) := by decide +kernel
theorem dX11_asks_12 : decode cX11_asks 12 = .ok (.ifCond .ne 12, 3) := by decide +kernel
theorem dX11_asks_15 : decode cX11_asks 15 = .ok (.aload_n 0, 1) := by decide +kernel
theorem dX11_asks_16 : decode cX11_asks 16 = .ok (.iconst 1, 1) := by decide +kernel
theorem dX11_asks_17 : decode cX11_asks 17 = .ok (.aload_n 0, 1) := by decide +kernel
theorem dX11_asks_18 : decode cX11_asks 18 = .ok (.getfield 230, 3) := by decide +kernel
theorem dX11_asks_21 : decode cX11_asks 21 = .ok (.invokevirtual 254, 3) := by decide +kernel
theorem dX11_asks_24 : decode cX11_asks 24 = .ok (.return_, 1) := by decide +kernel
theorem dX11_takesSign_0 : decode cX11_takesSign 0 = .ok (.aload_n 0, 1) := by decide +kernel
theorem dX11_takesSign_1 : decode cX11_takesSign 1 = .ok (.getfield 224, 3) := by decide +kernel
theorem dX11_takesSign_4 : decode cX11_takesSign 4 = .ok (.ifCond .ne 11, 3) := by decide +kernel
theorem dX11_takesSign_7 : decode cX11_takesSign 7 = .ok (.aload_n 0, 1) := by decide +kernel
theorem dX11_takesSign_8 : decode cX11_takesSign 8 = .ok (.invokevirtual 236, 3) := by decide +kernel
theorem dX11_takesSign_11 : decode cX11_takesSign 11 = .ok (.iload_n 1, 1) := by decide +kernel
theorem dX11_takesSign_12 : decode cX11_takesSign 12 = .ok (.if_icmp .eq 5, 3) := by decide +kernel
theorem dX11_takesSign_15 : decode cX11_takesSign 15 = .ok (.iconst 0, 1) := by decide +kernel
theorem dX11_takesSign_16 : decode cX11_takesSign 16 = .ok (.ireturn, 1) := by decide +kernel
theorem dX11_takesSign_17 : decode cX11_takesSign 17 = .ok (.aload_n 0, 1) := by decide +kernel
theorem dX11_takesSign_18 : decode cX11_takesSign 18 = .ok (.dup, 1) := by decide +kernel
theorem dX11_takesSign_19 : decode cX11_takesSign 19 = .ok (.getfield 230, 3) := by decide +kernel
theorem dX11_takesSign_22 : decode cX11_takesSign 22 = .ok (.iconst 1, 1) := by decide +kernel
theorem dX11_takesSign_23 : decode cX11_takesSign 23 = .ok (.iadd, 1) := by decide +kernel
theorem dX11_takesSign_24 : decode cX11_takesSign 24 = .ok (.putfield 230, 3) := by decide +kernel
theorem dX11_takesSign_27 : decode cX11_takesSign 27 = .ok (.iconst 1, 1) := by decide +kernel
theorem dX11_takesSign_28 : decode cX11_takesSign 28 = .ok (.ireturn, 1) := by decide +kernel
theorem dX11_asksSign_0 : decode cX11_asksSign 0 = .ok (.aload_n 0, 1) := by decide +kernel
theorem dX11_asksSign_1 : decode cX11_asksSign 1 = .ok (.getfield 224, 3) := by decide +kernel
theorem dX11_asksSign_4 : decode cX11_asksSign 4 = .ok (.ifCond .ne 20, 3) := by decide +kernel
theorem dX11_asksSign_7 : decode cX11_asksSign 7 = .ok (.aload_n 0, 1) := by decide +kernel
theorem dX11_asksSign_8 : decode cX11_asksSign 8 = .ok (.iload_n 1, 1) := by decide +kernel
theorem dX11_asksSign_9 : decode cX11_asksSign 9 = .ok (.invokevirtual 258, 3) := by decide +kernel
theorem dX11_asksSign_12 : decode cX11_asksSign 12 = .ok (.ifCond .ne 12, 3) := by decide +kernel
theorem dX11_asksSign_15 : decode cX11_asksSign 15 = .ok (.aload_n 0, 1) := by decide +kernel
theorem dX11_asksSign_16 : decode cX11_asksSign 16 = .ok (.iconst 1, 1) := by decide +kernel
theorem dX11_asksSign_17 : decode cX11_asksSign 17 = .ok (.aload_n 0, 1) := by decide +kernel
theorem dX11_asksSign_18 : decode cX11_asksSign 18 = .ok (.getfield 230, 3) := by decide +kernel
theorem dX11_asksSign_21 : decode cX11_asksSign 21 = .ok (.invokevirtual 254, 3) := by decide +kernel
theorem dX11_asksSign_24 : decode cX11_asksSign 24 = .ok (.return_, 1) := by decide +kernel
theorem dX11_number_0 : decode cX11_number 0 = .ok (.aload_n 0, 1) := by decide +kernel
theorem dX11_number_1 : decode cX11_number 1 = .ok (.getfield 224, 3) := by decide +kernel
theorem dX11_number_4 : decode cX11_number 4 = .ok (.ifCond .eq 5, 3) := by decide +kernel
theorem dX11_number_7 : decode cX11_number 7 = .ok (.iconst 0, 1) := by decide +kernel
theorem dX11_number_8 : decode cX11_number 8 = .ok (.ireturn, 1) := by decide +kernel
theorem dX11_number_9 : decode cX11_number 9 = .ok (.aload_n 0, 1) := by decide +kernel
theorem dX11_number_10 : decode cX11_number 10 = .ok (.invokevirtual 236, 3) := by decide +kernel
theorem dX11_number_13 : decode cX11_number 13 = .ok (.invokestatic 261, 3) := by decide +kernel
theorem dX11_number_16 : decode cX11_number 16 = .ok (.ifCond .eq 14, 3) := by decide +kernel
theorem dX11_number_19 : decode cX11_number 19 = .ok (.aload_n 0, 1) := by decide +kernel
theorem dX11_number_20 : decode cX11_number 20 = .ok (.getfield 230, 3) := by decide +kernel
theorem dX11_number_23 : decode cX11_number 23 = .ok (.aload_n 0, 1) := by decide +kernel
theorem dX11_number_24 : decode cX11_number 24 = .ok (.getfield 244, 3) := by decide +kernel
theorem dX11_number_27 : decode cX11_number 27 = .ok (.if_icmp .ne 14, 3) := by decide +kernel
theorem dX11_number_30 : decode cX11_number 30 = .ok (.aload_n 0, 1) := by decide +kernel
theorem dX11_number_31 : decode cX11_number 31 = .ok (.iconst 1, 1) := by decide +kernel
theorem dX11_number_32 : decode cX11_number 32 = .ok (.aload_n 0, 1) := by decide +kernel
theorem dX11_number_33 : decode cX11_number 33 = .ok (.getfield 230, 3) := by decide +kernel
theorem dX11_number_36 : decode cX11_number 36 = .ok (.invokevirtual 254, 3) := by decide +kernel
theorem dX11_number_39 : decode cX11_number 39 = .ok (.iconst 0, 1) := by decide +kernel
theorem dX11_number_40 : decode cX11_number 40 = .ok (.ireturn, 1) := by decide +kernel
theorem dX11_number_41 : decode cX11_number 41 = .ok (.aload_n 0, 1) := by decide +kernel
theorem dX11_number_42 : decode cX11_number 42 = .ok (.getfield 230, 3) := by decide +kernel
theorem dX11_number_45 : decode cX11_number 45 = .ok (.istore_n 3, 1) := by decide +kernel
theorem dX11_number_46 : decode cX11_number 46 = .ok (.iconst 0, 1) := by decide +kernel
theorem dX11_number_47 : decode cX11_number 47 = .ok (.istore 4, 2) := by decide +kernel
theorem dX11_number_49 : decode cX11_number 49 = .ok (.aload_n 0, 1) := by decide +kernel
theorem dX11_number_50 : decode cX11_number 50 = .ok (.getfield 230, 3) := by decide +kernel
theorem dX11_number_53 : decode cX11_number 53 = .ok (.aload_n 0, 1) := by decide +kernel
theorem dX11_number_54 : decode cX11_number 54 = .ok (.getfield 233, 3) := by decide +kernel
theorem dX11_number_57 : decode cX11_number 57 = .ok (.if_icmp .ge 72, 3) := by decide +kernel
theorem dX11_number_60 : decode cX11_number 60 = .ok (.aload_n 0, 1) := by decide +kernel
theorem dX11_number_61 : decode cX11_number 61 = .ok (.getfield 7, 3) := by decide +kernel
theorem dX11_number_64 : decode cX11_number 64 = .ok (.aload_n 0, 1) := by decide +kernel
theorem dX11_number_65 : decode cX11_number 65 = .ok (.getfield 230, 3) := by decide +kernel
theorem dX11_number_68 : decode cX11_number 68 = .ok (.iaload, 1) := by decide +kernel
theorem dX11_number_69 : decode cX11_number 69 = .ok (.invokestatic 261, 3) := by decide +kernel
theorem dX11_number_72 : decode cX11_number 72 = .ok (.ifCond .eq 57, 3) := by decide +kernel
theorem dX11_number_75 : decode cX11_number 75 = .ok (.aload_n 0, 1) := by decide +kernel
theorem dX11_number_76 : decode cX11_number 76 = .ok (.getfield 230, 3) := by decide +kernel
theorem dX11_number_79 : decode cX11_number 79 = .ok (.iload_n 3, 1) := by decide +kernel
theorem dX11_number_80 : decode cX11_number 80 = .ok (.isub, 1) := by decide +kernel
theorem dX11_number_81 : decode cX11_number 81 = .ok (.iconst 4, 1) := by decide +kernel
theorem dX11_number_82 : decode cX11_number 82 = .ok (.if_icmp .ne 14, 3) := by decide +kernel
theorem dX11_number_85 : decode cX11_number 85 = .ok (.aload_n 0, 1) := by decide +kernel
theorem dX11_number_86 : decode cX11_number 86 = .ok (.iconst 1, 1) := by decide +kernel
theorem dX11_number_87 : decode cX11_number 87 = .ok (.aload_n 0, 1) := by decide +kernel
theorem dX11_number_88 : decode cX11_number 88 = .ok (.getfield 230, 3) := by decide +kernel
theorem dX11_number_91 : decode cX11_number 91 = .ok (.invokevirtual 254, 3) := by decide +kernel
theorem dX11_number_94 : decode cX11_number 94 = .ok (.iconst 0, 1) := by decide +kernel
theorem dX11_number_95 : decode cX11_number 95 = .ok (.ireturn, 1) := by decide +kernel
theorem dX11_number_96 : decode cX11_number 96 = .ok (.bipush 10, 2) := by decide +kernel
theorem dX11_number_98 : decode cX11_number 98 = .ok (.iload 4, 2) := by decide +kernel
theorem dX11_number_100 : decode cX11_number 100 = .ok (.imul, 1) := by decide +kernel
theorem dX11_number_101 : decode cX11_number 101 = .ok (.aload_n 0, 1) := by decide +kernel
theorem dX11_number_102 : decode cX11_number 102 = .ok (.getfield 7, 3) := by decide +kernel
theorem dX11_number_105 : decode cX11_number 105 = .ok (.aload_n 0, 1) := by decide +kernel
theorem dX11_number_106 : decode cX11_number 106 = .ok (.getfield 230, 3) := by decide +kernel
theorem dX11_number_109 : decode cX11_number 109 = .ok (.iaload, 1) := by decide +kernel
theorem dX11_number_110 : decode cX11_number 110 = .ok (.iadd, 1) := by decide +kernel
theorem dX11_number_111 : decode cX11_number 111 = .ok (.bipush 48, 2) := by decide +kernel
theorem dX11_number_113 : decode cX11_number 113 = .ok (.isub, 1) := by decide +kernel
theorem dX11_number_114 : decode cX11_number 114 = .ok (.istore 4, 2) := by decide +kernel
theorem dX11_number_116 : decode cX11_number 116 = .ok (.aload_n 0, 1) := by decide +kernel
theorem dX11_number_117 : decode cX11_number 117 = .ok (.dup, 1) := by decide +kernel
theorem dX11_number_118 : decode cX11_number 118 = .ok (.getfield 230, 3) := by decide +kernel
theorem dX11_number_121 : decode cX11_number 121 = .ok (.iconst 1, 1) := by decide +kernel
theorem dX11_number_122 : decode cX11_number 122 = .ok (.iadd, 1) := by decide +kernel
theorem dX11_number_123 : decode cX11_number 123 = .ok (.putfield 230, 3) := by decide +kernel
theorem dX11_number_126 : decode cX11_number 126 = .ok (.goto (-77), 3) := by decide +kernel
theorem dX11_number_129 : decode cX11_number 129 = .ok (.aload_n 0, 1) := by decide +kernel
theorem dX11_number_130 : decode cX11_number 130 = .ok (.aload_n 0, 1) := by decide +kernel
theorem dX11_number_131 : decode cX11_number 131 = .ok (.getfield 230, 3) := by decide +kernel
theorem dX11_number_134 : decode cX11_number 134 = .ok (.putfield 244, 3) := by decide +kernel
theorem dX11_number_137 : decode cX11_number 137 = .ok (.iload 4, 2) := by decide +kernel
theorem dX11_number_139 : decode cX11_number 139 = .ok (.i2l, 1) := by decide +kernel
theorem dX11_number_140 : decode cX11_number 140 = .ok (.iload_n 1, 1) := by decide +kernel
theorem dX11_number_141 : decode cX11_number 141 = .ok (.i2l, 1) := by decide +kernel
theorem dX11_number_142 : decode cX11_number 142 = .ok (.iload_n 2, 1) := by decide +kernel
theorem dX11_number_143 : decode cX11_number 143 = .ok (.i2l, 1) := by decide +kernel
theorem dX11_number_144 : decode cX11_number 144 = .ok (.invokestatic 264, 3) := by decide +kernel
theorem dX11_number_147 : decode cX11_number 147 = .ok (.ifCond .ne 9, 3) := by decide +kernel
theorem dX11_number_150 : decode cX11_number 150 = .ok (.aload_n 0, 1) := by decide +kernel
theorem dX11_number_151 : decode cX11_number 151 = .ok (.iconst 2, 1) := by decide +kernel
theorem dX11_number_152 : decode cX11_number 152 = .ok (.iload_n 3, 1) := by decide +kernel
theorem dX11_number_153 : decode cX11_number 153 = .ok (.invokevirtual 254, 3) := by decide +kernel
theorem dX11_number_156 : decode cX11_number 156 = .ok (.iload 4, 2) := by decide +kernel
theorem dX11_number_158 : decode cX11_number 158 = .ok (.ireturn, 1) := by decide +kernel
theorem dX11_isOwnHere_0 : decode cX11_isOwnHere 0 = .ok (.aload_n 0, 1) := by decide +kernel
theorem dX11_isOwnHere_1 : decode cX11_isOwnHere 1 = .ok (.aload_n 0, 1) := by decide +kernel
theorem dX11_isOwnHere_2 : decode cX11_isOwnHere 2 = .ok (.getfield 17, 3) := by decide +kernel
theorem dX11_isOwnHere_5 : decode cX11_isOwnHere 5 = .ok (.invokevirtual 247, 3) := by decide +kernel
theorem dX11_isOwnHere_8 : decode cX11_isOwnHere 8 = .ok (.ifCond .ne 58, 3) := by decide +kernel
theorem dX11_isOwnHere_11 : decode cX11_isOwnHere 11 = .ok (.aload_n 0, 1) := by decide +kernel
theorem dX11_isOwnHere_12 : decode cX11_isOwnHere 12 = .ok (.aload_n 0, 1) := by decide +kernel
theorem dX11_isOwnHere_13 : decode cX11_isOwnHere 13 = .ok (.getfield 21, 3) := by decide +kernel
theorem dX11_isOwnHere_16 : decode cX11_isOwnHere 16 = .ok (.invokevirtual 247, 3) := by decide +kernel
theorem dX11_isOwnHere_19 : decode cX11_isOwnHere 19 = .ok (.ifCond .ne 47, 3) := by decide +kernel
theorem dX11_isOwnHere_22 : decode cX11_isOwnHere 22 = .ok (.aload_n 0, 1) := by decide +kernel
theorem dX11_isOwnHere_23 : decode cX11_isOwnHere 23 = .ok (.aload_n 0, 1) := by decide +kernel
theorem dX11_isOwnHere_24 : decode cX11_isOwnHere 24 = .ok (.getfield 24, 3) := by decide +kernel
theorem dX11_isOwnHere_27 : decode cX11_isOwnHere 27 = .ok (.invokevirtual 247, 3) := by decide +kernel
theorem dX11_isOwnHere_30 : decode cX11_isOwnHere 30 = .ok (.ifCond .ne 36, 3) := by decide +kernel
theorem dX11_isOwnHere_33 : decode cX11_isOwnHere 33 = .ok (.aload_n 0, 1) := by decide +kernel
theorem dX11_isOwnHere_34 : decode cX11_isOwnHere 34 = .ok (.aload_n 0, 1) := by decide +kernel
theorem dX11_isOwnHere_35 : decode cX11_isOwnHere 35 = .ok (.getfield 27, 3) := by decide +kernel
theorem dX11_isOwnHere_38 : decode cX11_isOwnHere 38 = .ok (.invokevirtual 247, 3) := by decide +kernel
theorem dX11_isOwnHere_41 : decode cX11_isOwnHere 41 = .ok (.ifCond .ne 25, 3) := by decide +kernel
theorem dX11_isOwnHere_44 : decode cX11_isOwnHere 44 = .ok (.aload_n 0, 1) := by decide +kernel
theorem dX11_isOwnHere_45 : decode cX11_isOwnHere 45 = .ok (.aload_n 0, 1) := by decide +kernel
theorem dX11_isOwnHere_46 : decode cX11_isOwnHere 46 = .ok (.getfield 30, 3) := by decide +kernel
theorem dX11_isOwnHere_49 : decode cX11_isOwnHere 49 = .ok (.invokevirtual 247, 3) := by decide +kernel
theorem dX11_isOwnHere_52 : decode cX11_isOwnHere 52 = .ok (.ifCond .ne 14, 3) := by decide +kernel
theorem dX11_isOwnHere_55 : decode cX11_isOwnHere 55 = .ok (.aload_n 0, 1) := by decide +kernel
theorem dX11_isOwnHere_56 : decode cX11_isOwnHere 56 = .ok (.aload_n 0, 1) := by decide +kernel
theorem dX11_isOwnHere_57 : decode cX11_isOwnHere 57 = .ok (.getfield 33, 3) := by decide +kernel
theorem dX11_isOwnHere_60 : decode cX11_isOwnHere 60 = .ok (.invokevirtual 247, 3) := by decide +kernel
theorem dX11_isOwnHere_63 : decode cX11_isOwnHere 63 = .ok (.ifCond .eq 7, 3) := by decide +kernel
theorem dX11_isOwnHere_66 : decode cX11_isOwnHere 66 = .ok (.iconst 1, 1) := by decide +kernel
theorem dX11_isOwnHere_67 : decode cX11_isOwnHere 67 = .ok (.goto 4, 3) := by decide +kernel
theorem dX11_isOwnHere_70 : decode cX11_isOwnHere 70 = .ok (.iconst 0, 1) := by decide +kernel
theorem dX11_isOwnHere_71 : decode cX11_isOwnHere 71 = .ok (.istore_n 1, 1) := by decide +kernel
theorem dX11_isOwnHere_72 : decode cX11_isOwnHere 72 = .ok (.iload_n 1, 1) := by decide +kernel
theorem dX11_isOwnHere_73 : decode cX11_isOwnHere 73 = .ok (.ifCond .ne 69, 3) := by decide +kernel
theorem dX11_isOwnHere_76 : decode cX11_isOwnHere 76 = .ok (.aload_n 0, 1) := by decide +kernel
theorem dX11_isOwnHere_77 : decode cX11_isOwnHere 77 = .ok (.aload_n 0, 1) := by decide +kernel
theorem dX11_isOwnHere_78 : decode cX11_isOwnHere 78 = .ok (.getfield 36, 3) := by decide +kernel
theorem dX11_isOwnHere_81 : decode cX11_isOwnHere 81 = .ok (.invokevirtual 247, 3) := by decide +kernel
theorem dX11_isOwnHere_84 : decode cX11_isOwnHere 84 = .ok (.ifCond .ne 58, 3) := by decide +kernel
theorem dX11_isOwnHere_87 : decode cX11_isOwnHere 87 = .ok (.aload_n 0, 1) := by decide +kernel
theorem dX11_isOwnHere_88 : decode cX11_isOwnHere 88 = .ok (.aload_n 0, 1) := by decide +kernel
theorem dX11_isOwnHere_89 : decode cX11_isOwnHere 89 = .ok (.getfield 39, 3) := by decide +kernel
theorem dX11_isOwnHere_92 : decode cX11_isOwnHere 92 = .ok (.invokevirtual 247, 3) := by decide +kernel
theorem dX11_isOwnHere_95 : decode cX11_isOwnHere 95 = .ok (.ifCond .ne 47, 3) := by decide +kernel
theorem dX11_isOwnHere_98 : decode cX11_isOwnHere 98 = .ok (.aload_n 0, 1) := by decide +kernel
theorem dX11_isOwnHere_99 : decode cX11_isOwnHere 99 = .ok (.aload_n 0, 1) := by decide +kernel
theorem dX11_isOwnHere_100 : decode cX11_isOwnHere 100 = .ok (.getfield 42, 3) := by decide +kernel
theorem dX11_isOwnHere_103 : decode cX11_isOwnHere 103 = .ok (.invokevirtual 247, 3) := by decide +kernel
theorem dX11_isOwnHere_106 : decode cX11_isOwnHere 106 = .ok (.ifCond .ne 36, 3) := by decide +kernel
theorem dX11_isOwnHere_109 : decode cX11_isOwnHere 109 = .ok (.aload_n 0, 1) := by decide +kernel
theorem dX11_isOwnHere_110 : decode cX11_isOwnHere 110 = .ok (.aload_n 0, 1) := by decide +kernel
theorem dX11_isOwnHere_111 : decode cX11_isOwnHere 111 = .ok (.getfield 45, 3) := by decide +kernel
theorem dX11_isOwnHere_114 : decode cX11_isOwnHere 114 = .ok (.invokevirtual 247, 3) := by decide +kernel
theorem dX11_isOwnHere_117 : decode cX11_isOwnHere 117 = .ok (.ifCond .ne 25, 3) := by decide +kernel
theorem dX11_isOwnHere_120 : decode cX11_isOwnHere 120 = .ok (.aload_n 0, 1) := by decide +kernel
theorem dX11_isOwnHere_121 : decode cX11_isOwnHere 121 = .ok (.aload_n 0, 1) := by decide +kernel
theorem dX11_isOwnHere_122 : decode cX11_isOwnHere 122 = .ok (.getfield 48, 3) := by decide +kernel
theorem dX11_isOwnHere_125 : decode cX11_isOwnHere 125 = .ok (.invokevirtual 247, 3) := by decide +kernel
theorem dX11_isOwnHere_128 : decode cX11_isOwnHere 128 = .ok (.ifCond .ne 14, 3) := by decide +kernel
theorem dX11_isOwnHere_131 : decode cX11_isOwnHere 131 = .ok (.aload_n 0, 1) := by decide +kernel
theorem dX11_isOwnHere_132 : decode cX11_isOwnHere 132 = .ok (.aload_n 0, 1) := by decide +kernel
theorem dX11_isOwnHere_133 : decode cX11_isOwnHere 133 = .ok (.getfield 51, 3) := by decide +kernel
theorem dX11_isOwnHere_136 : decode cX11_isOwnHere 136 = .ok (.invokevirtual 247, 3) := by decide +kernel
theorem dX11_isOwnHere_139 : decode cX11_isOwnHere 139 = .ok (.ifCond .eq 7, 3) := by decide +kernel
theorem dX11_isOwnHere_142 : decode cX11_isOwnHere 142 = .ok (.iconst 1, 1) := by decide +kernel
theorem dX11_isOwnHere_143 : decode cX11_isOwnHere 143 = .ok (.goto 4, 3) := by decide +kernel
theorem dX11_isOwnHere_146 : decode cX11_isOwnHere 146 = .ok (.iconst 0, 1) := by decide +kernel
theorem dX11_isOwnHere_147 : decode cX11_isOwnHere 147 = .ok (.istore_n 1, 1) := by decide +kernel
theorem dX11_isOwnHere_148 : decode cX11_isOwnHere 148 = .ok (.iload_n 1, 1) := by decide +kernel
theorem dX11_isOwnHere_149 : decode cX11_isOwnHere 149 = .ok (.ifCond .ne 69, 3) := by decide +kernel
theorem dX11_isOwnHere_152 : decode cX11_isOwnHere 152 = .ok (.aload_n 0, 1) := by decide +kernel
theorem dX11_isOwnHere_153 : decode cX11_isOwnHere 153 = .ok (.aload_n 0, 1) := by decide +kernel
theorem dX11_isOwnHere_154 : decode cX11_isOwnHere 154 = .ok (.getfield 54, 3) := by decide +kernel
theorem dX11_isOwnHere_157 : decode cX11_isOwnHere 157 = .ok (.invokevirtual 247, 3) := by decide +kernel
theorem dX11_isOwnHere_160 : decode cX11_isOwnHere 160 = .ok (.ifCond .ne 58, 3) := by decide +kernel
theorem dX11_isOwnHere_163 : decode cX11_isOwnHere 163 = .ok (.aload_n 0, 1) := by decide +kernel
theorem dX11_isOwnHere_164 : decode cX11_isOwnHere 164 = .ok (.aload_n 0, 1) := by decide +kernel
theorem dX11_isOwnHere_165 : decode cX11_isOwnHere 165 = .ok (.getfield 57, 3) := by decide +kernel
theorem dX11_isOwnHere_168 : decode cX11_isOwnHere 168 = .ok (.invokevirtual 247, 3) := by decide +kernel
theorem dX11_isOwnHere_171 : decode cX11_isOwnHere 171 = .ok (.ifCond .ne 47, 3) := by decide +kernel
theorem dX11_isOwnHere_174 : decode cX11_isOwnHere 174 = .ok (.aload_n 0, 1) := by decide +kernel
theorem dX11_isOwnHere_175 : decode cX11_isOwnHere 175 = .ok (.aload_n 0, 1) := by decide +kernel
theorem dX11_isOwnHere_176 : decode cX11_isOwnHere 176 = .ok (.getfield 60, 3) := by decide +kernel
theorem dX11_isOwnHere_179 : decode cX11_isOwnHere 179 = .ok (.invokevirtual 247, 3) := by decide +kernel
theorem dX11_isOwnHere_182 : decode cX11_isOwnHere 182 = .ok (.ifCond .ne 36, 3) := by decide +kernel
theorem dX11_isOwnHere_185 : decode cX11_isOwnHere 185 = .ok (.aload_n 0, 1) := by decide +kernel
theorem dX11_isOwnHere_186 : decode cX11_isOwnHere 186 = .ok (.aload_n 0, 1) := by decide +kernel
theorem dX11_isOwnHere_187 : decode cX11_isOwnHere 187 = .ok (.getfield 63, 3) := by decide +kernel
theorem dX11_isOwnHere_190 : decode cX11_isOwnHere 190 = .ok (.invokevirtual 247, 3) := by decide +kernel
theorem dX11_isOwnHere_193 : decode cX11_isOwnHere 193 = .ok (.ifCond .ne 25, 3) := by decide +kernel
theorem dX11_isOwnHere_196 : decode cX11_isOwnHere 196 = .ok (.aload_n 0, 1) := by decide +kernel
theorem dX11_isOwnHere_197 : decode cX11_isOwnHere 197 = .ok (.aload_n 0, 1) := by decide +kernel
theorem dX11_isOwnHere_198 : decode cX11_isOwnHere 198 = .ok (.getfield 66, 3) := by decide +kernel
theorem dX11_isOwnHere_201 : decode cX11_isOwnHere 201 = .ok (.invokevirtual 247, 3) := by decide +kernel
theorem dX11_isOwnHere_204 : decode cX11_isOwnHere 204 = .ok (.ifCond .ne 14, 3) := by decide +kernel
theorem dX11_isOwnHere_207 : decode cX11_isOwnHere 207 = .ok (.aload_n 0, 1) := by decide +kernel
theorem dX11_isOwnHere_208 : decode cX11_isOwnHere 208 = .ok (.aload_n 0, 1) := by decide +kernel
theorem dX11_isOwnHere_209 : decode cX11_isOwnHere 209 = .ok (.getfield 69, 3) := by decide +kernel
theorem dX11_isOwnHere_212 : decode cX11_isOwnHere 212 = .ok (.invokevirtual 247, 3) := by decide +kernel
theorem dX11_isOwnHere_215 : decode cX11_isOwnHere 215 = .ok (.ifCond .eq 7, 3) := by decide +kernel
theorem dX11_isOwnHere_218 : decode cX11_isOwnHere 218 = .ok (.iconst 1, 1) := by decide +kernel
theorem dX11_isOwnHere_219 : decode cX11_isOwnHere 219 = .ok (.goto 4, 3) := by decide +kernel
theorem dX11_isOwnHere_222 : decode cX11_isOwnHere 222 = .ok (.iconst 0, 1) := by decide +kernel
theorem dX11_isOwnHere_223 : decode cX11_isOwnHere 223 = .ok (.istore_n 1, 1) := by decide +kernel
theorem dX11_isOwnHere_224 : decode cX11_isOwnHere 224 = .ok (.iload_n 1, 1) := by decide +kernel
theorem dX11_isOwnHere_225 : decode cX11_isOwnHere 225 = .ok (.ifCond .ne 69, 3) := by decide +kernel
theorem dX11_isOwnHere_228 : decode cX11_isOwnHere 228 = .ok (.aload_n 0, 1) := by decide +kernel
theorem dX11_isOwnHere_229 : decode cX11_isOwnHere 229 = .ok (.aload_n 0, 1) := by decide +kernel
theorem dX11_isOwnHere_230 : decode cX11_isOwnHere 230 = .ok (.getfield 72, 3) := by decide +kernel
theorem dX11_isOwnHere_233 : decode cX11_isOwnHere 233 = .ok (.invokevirtual 247, 3) := by decide +kernel
theorem dX11_isOwnHere_236 : decode cX11_isOwnHere 236 = .ok (.ifCond .ne 58, 3) := by decide +kernel
theorem dX11_isOwnHere_239 : decode cX11_isOwnHere 239 = .ok (.aload_n 0, 1) := by decide +kernel
theorem dX11_isOwnHere_240 : decode cX11_isOwnHere 240 = .ok (.aload_n 0, 1) := by decide +kernel
theorem dX11_isOwnHere_241 : decode cX11_isOwnHere 241 = .ok (.getfield 75, 3) := by decide +kernel
theorem dX11_isOwnHere_244 : decode cX11_isOwnHere 244 = .ok (.invokevirtual 247, 3) := by decide +kernel
theorem dX11_isOwnHere_247 : decode cX11_isOwnHere 247 = .ok (.ifCond .ne 47, 3) := by decide +kernel
theorem dX11_isOwnHere_250 : decode cX11_isOwnHere 250 = .ok (.aload_n 0, 1) := by decide +kernel
theorem dX11_isOwnHere_251 : decode cX11_isOwnHere 251 = .ok (.aload_n 0, 1) := by decide +kernel
theorem dX11_isOwnHere_252 : decode cX11_isOwnHere 252 = .ok (.getfield 78, 3) := by decide +kernel
theorem dX11_isOwnHere_255 : decode cX11_isOwnHere 255 = .ok (.invokevirtual 247, 3) := by decide +kernel
theorem dX11_isOwnHere_258 : decode cX11_isOwnHere 258 = .ok (.ifCond .ne 36, 3) := by decide +kernel
theorem dX11_isOwnHere_261 : decode cX11_isOwnHere 261 = .ok (.aload_n 0, 1) := by decide +kernel
theorem dX11_isOwnHere_262 : decode cX11_isOwnHere 262 = .ok (.aload_n 0, 1) := by decide +kernel
theorem dX11_isOwnHere_263 : decode cX11_isOwnHere 263 = .ok (.getfield 81, 3) := by decide +kernel
theorem dX11_isOwnHere_266 : decode cX11_isOwnHere 266 = .ok (.invokevirtual 247, 3) := by decide +kernel
theorem dX11_isOwnHere_269 : decode cX11_isOwnHere 269 = .ok (.ifCond .ne 25, 3) := by decide +kernel
theorem dX11_isOwnHere_272 : decode cX11_isOwnHere 272 = .ok (.aload_n 0, 1) := by decide +kernel
theorem dX11_isOwnHere_273 : decode cX11_isOwnHere 273 = .ok (.aload_n 0, 1) := by decide +kernel
theorem dX11_isOwnHere_274 : decode cX11_isOwnHere 274 = .ok (.getfield 84, 3) := by decide +kernel
theorem dX11_isOwnHere_277 : decode cX11_isOwnHere 277 = .ok (.invokevirtual 247, 3) := by decide +kernel
theorem dX11_isOwnHere_280 : decode cX11_isOwnHere 280 = .ok (.ifCond .ne 14, 3) := by decide +kernel
theorem dX11_isOwnHere_283 : decode cX11_isOwnHere 283 = .ok (.aload_n 0, 1) := by decide +kernel
theorem dX11_isOwnHere_284 : decode cX11_isOwnHere 284 = .ok (.aload_n 0, 1) := by decide +kernel
theorem dX11_isOwnHere_285 : decode cX11_isOwnHere 285 = .ok (.getfield 87, 3) := by decide +kernel
theorem dX11_isOwnHere_288 : decode cX11_isOwnHere 288 = .ok (.invokevirtual 247, 3) := by decide +kernel
theorem dX11_isOwnHere_291 : decode cX11_isOwnHere 291 = .ok (.ifCond .eq 7, 3) := by decide +kernel
theorem dX11_isOwnHere_294 : decode cX11_isOwnHere 294 = .ok (.iconst 1, 1) := by decide +kernel
theorem dX11_isOwnHere_295 : decode cX11_isOwnHere 295 = .ok (.goto 4, 3) := by decide +kernel
theorem dX11_isOwnHere_298 : decode cX11_isOwnHere 298 = .ok (.iconst 0, 1) := by decide +kernel
theorem dX11_isOwnHere_299 : decode cX11_isOwnHere 299 = .ok (.istore_n 1, 1) := by decide +kernel
theorem dX11_isOwnHere_300 : decode cX11_isOwnHere 300 = .ok (.iload_n 1, 1) := by decide +kernel
theorem dX11_isOwnHere_301 : decode cX11_isOwnHere 301 = .ok (.ifCond .ne 69, 3) := by decide +kernel
theorem dX11_isOwnHere_304 : decode cX11_isOwnHere 304 = .ok (.aload_n 0, 1) := by decide +kernel
theorem dX11_isOwnHere_305 : decode cX11_isOwnHere 305 = .ok (.aload_n 0, 1) := by decide +kernel
theorem dX11_isOwnHere_306 : decode cX11_isOwnHere 306 = .ok (.getfield 90, 3) := by decide +kernel
theorem dX11_isOwnHere_309 : decode cX11_isOwnHere 309 = .ok (.invokevirtual 247, 3) := by decide +kernel
theorem dX11_isOwnHere_312 : decode cX11_isOwnHere 312 = .ok (.ifCond .ne 58, 3) := by decide +kernel
theorem dX11_isOwnHere_315 : decode cX11_isOwnHere 315 = .ok (.aload_n 0, 1) := by decide +kernel
theorem dX11_isOwnHere_316 : decode cX11_isOwnHere 316 = .ok (.aload_n 0, 1) := by decide +kernel
theorem dX11_isOwnHere_317 : decode cX11_isOwnHere 317 = .ok (.getfield 93, 3) := by decide +kernel
theorem dX11_isOwnHere_320 : decode cX11_isOwnHere 320 = .ok (.invokevirtual 247, 3) := by decide +kernel
theorem dX11_isOwnHere_323 : decode cX11_isOwnHere 323 = .ok (.ifCond .ne 47, 3) := by decide +kernel
theorem dX11_isOwnHere_326 : decode cX11_isOwnHere 326 = .ok (.aload_n 0, 1) := by decide +kernel
theorem dX11_isOwnHere_327 : decode cX11_isOwnHere 327 = .ok (.aload_n 0, 1) := by decide +kernel
theorem dX11_isOwnHere_328 : decode cX11_isOwnHere 328 = .ok (.getfield 96, 3) := by decide +kernel
theorem dX11_isOwnHere_331 : decode cX11_isOwnHere 331 = .ok (.invokevirtual 247, 3) := by decide +kernel
theorem dX11_isOwnHere_334 : decode cX11_isOwnHere 334 = .ok (.ifCond .ne 36, 3) := by decide +kernel
theorem dX11_isOwnHere_337 : decode cX11_isOwnHere 337 = .ok (.aload_n 0, 1) := by decide +kernel
theorem dX11_isOwnHere_338 : decode cX11_isOwnHere 338 = .ok (.aload_n 0, 1) := by decide +kernel
theorem dX11_isOwnHere_339 : decode cX11_isOwnHere 339 = .ok (.getfield 99, 3) := by decide +kernel
theorem dX11_isOwnHere_342 : decode cX11_isOwnHere 342 = .ok (.invokevirtual 247, 3) := by decide +kernel
theorem dX11_isOwnHere_345 : decode cX11_isOwnHere 345 = .ok (.ifCond .ne 25, 3) := by decide +kernel
theorem dX11_isOwnHere_348 : decode cX11_isOwnHere 348 = .ok (.aload_n 0, 1) := by decide +kernel
theorem dX11_isOwnHere_349 : decode cX11_isOwnHere 349 = .ok (.aload_n 0, 1) := by decide +kernel
theorem dX11_isOwnHere_350 : decode cX11_isOwnHere 350 = .ok (.getfield 102, 3) := by decide +kernel
theorem dX11_isOwnHere_353 : decode cX11_isOwnHere 353 = .ok (.invokevirtual 247, 3) := by decide +kernel
theorem dX11_isOwnHere_356 : decode cX11_isOwnHere 356 = .ok (.ifCond .ne 14, 3) := by decide +kernel
theorem dX11_isOwnHere_359 : decode cX11_isOwnHere 359 = .ok (.aload_n 0, 1) := by decide +kernel
theorem dX11_isOwnHere_360 : decode cX11_isOwnHere 360 = .ok (.aload_n 0, 1) := by decide +kernel
theorem dX11_isOwnHere_361 : decode cX11_isOwnHere 361 = .ok (.getfield 105, 3) := by decide +kernel
theorem dX11_isOwnHere_364 : decode cX11_isOwnHere 364 = .ok (.invokevirtual 247, 3) := by decide +kernel
theorem dX11_isOwnHere_367 : decode cX11_isOwnHere 367 = .ok (.ifCond .eq 7, 3) := by decide +kernel
theorem dX11_isOwnHere_370 : decode cX11_isOwnHere 370 = .ok (.iconst 1, 1) := by decide +kernel
theorem dX11_isOwnHere_371 : decode cX11_isOwnHere 371 = .ok (.goto 4, 3) := by decide +kernel
theorem dX11_isOwnHere_374 : decode cX11_isOwnHere 374 = .ok (.iconst 0, 1) := by decide +kernel
theorem dX11_isOwnHere_375 : decode cX11_isOwnHere 375 = .ok (.istore_n 1, 1) := by decide +kernel
theorem dX11_isOwnHere_376 : decode cX11_isOwnHere 376 = .ok (.iload_n 1, 1) := by decide +kernel
theorem dX11_isOwnHere_377 : decode cX11_isOwnHere 377 = .ok (.ifCond .ne 36, 3) := by decide +kernel
theorem dX11_isOwnHere_380 : decode cX11_isOwnHere 380 = .ok (.aload_n 0, 1) := by decide +kernel
theorem dX11_isOwnHere_381 : decode cX11_isOwnHere 381 = .ok (.aload_n 0, 1) := by decide +kernel
theorem dX11_isOwnHere_382 : decode cX11_isOwnHere 382 = .ok (.getfield 108, 3) := by decide +kernel
theorem dX11_isOwnHere_385 : decode cX11_isOwnHere 385 = .ok (.invokevirtual 247, 3) := by decide +kernel
theorem dX11_isOwnHere_388 : decode cX11_isOwnHere 388 = .ok (.ifCond .ne 25, 3) := by decide +kernel
theorem dX11_isOwnHere_391 : decode cX11_isOwnHere 391 = .ok (.aload_n 0, 1) := by decide +kernel
theorem dX11_isOwnHere_392 : decode cX11_isOwnHere 392 = .ok (.aload_n 0, 1) := by decide +kernel
theorem dX11_isOwnHere_393 : decode cX11_isOwnHere 393 = .ok (.getfield 111, 3) := by decide +kernel
theorem dX11_isOwnHere_396 : decode cX11_isOwnHere 396 = .ok (.invokevirtual 247, 3) := by decide +kernel
theorem dX11_isOwnHere_399 : decode cX11_isOwnHere 399 = .ok (.ifCond .ne 14, 3) := by decide +kernel
theorem dX11_isOwnHere_402 : decode cX11_isOwnHere 402 = .ok (.aload_n 0, 1) := by decide +kernel
theorem dX11_isOwnHere_403 : decode cX11_isOwnHere 403 = .ok (.aload_n 0, 1) := by decide +kernel
theorem dX11_isOwnHere_404 : decode cX11_isOwnHere 404 = .ok (.getfield 114, 3) := by decide +kernel
theorem dX11_isOwnHere_407 : decode cX11_isOwnHere 407 = .ok (.invokevirtual 247, 3) := by decide +kernel
theorem dX11_isOwnHere_410 : decode cX11_isOwnHere 410 = .ok (.ifCond .eq 7, 3) := by decide +kernel
theorem dX11_isOwnHere_413 : decode cX11_isOwnHere 413 = .ok (.iconst 1, 1) := by decide +kernel
theorem dX11_isOwnHere_414 : decode cX11_isOwnHere 414 = .ok (.goto 4, 3) := by decide +kernel
theorem dX11_isOwnHere_417 : decode cX11_isOwnHere 417 = .ok (.iconst 0, 1) := by decide +kernel
theorem dX11_isOwnHere_418 : decode cX11_isOwnHere 418 = .ok (.istore_n 1, 1) := by decide +kernel
theorem dX11_isOwnHere_419 : decode cX11_isOwnHere 419 = .ok (.iload_n 1, 1) := by decide +kernel
theorem dX11_isOwnHere_420 : decode cX11_isOwnHere 420 = .ok (.ireturn, 1) := by decide +kernel
theorem dX11_name_0 : decode cX11_name 0 = .ok (.aload_n 0, 1) := by decide +kernel
theorem dX11_name_1 : decode cX11_name 1 = .ok (.getfield 224, 3) := by decide +kernel
theorem dX11_name_4 : decode cX11_name 4 = .ok (.ifCond .eq 5, 3) := by decide +kernel
theorem dX11_name_7 : decode cX11_name 7 = .ok (.lconst 0, 1) := by decide +kernel
theorem dX11_name_8 : decode cX11_name 8 = .ok (.lreturn, 1) := by decide +kernel
theorem dX11_name_9 : decode cX11_name 9 = .ok (.aload_n 0, 1) := by decide +kernel
theorem dX11_name_10 : decode cX11_name 10 = .ok (.invokevirtual 236, 3) := by decide +kernel
theorem dX11_name_13 : decode cX11_name 13 = .ok (.invokestatic 240, 3) := by decide +kernel
theorem dX11_name_16 : decode cX11_name 16 = .ok (.ifCond .eq 21, 3) := by decide +kernel
theorem dX11_name_19 : decode cX11_name 19 = .ok (.aload_n 0, 1) := by decide +kernel
theorem dX11_name_20 : decode cX11_name 20 = .ok (.getfield 230, 3) := by decide +kernel
theorem dX11_name_23 : decode cX11_name 23 = .ok (.aload_n 0, 1) := by decide +kernel
theorem dX11_name_24 : decode cX11_name 24 = .ok (.getfield 244, 3) := by decide +kernel
theorem dX11_name_27 : decode cX11_name 27 = .ok (.if_icmp .eq 10, 3) := by decide +kernel
theorem dX11_name_30 : decode cX11_name 30 = .ok (.aload_n 0, 1) := by decide +kernel
theorem dX11_name_31 : decode cX11_name 31 = .ok (.invokevirtual 268, 3) := by decide +kernel
theorem dX11_name_34 : decode cX11_name 34 = .ok (.ifCond .eq 14, 3) := by decide +kernel
theorem dX11_name_37 : decode cX11_name 37 = .ok (.aload_n 0, 1) := by decide +kernel
theorem dX11_name_38 : decode cX11_name 38 = .ok (.iconst 1, 1) := by decide +kernel
theorem dX11_name_39 : decode cX11_name 39 = .ok (.aload_n 0, 1) := by decide +kernel
theorem dX11_name_40 : decode cX11_name 40 = .ok (.getfield 230, 3) := by decide +kernel
theorem dX11_name_43 : decode cX11_name 43 = .ok (.invokevirtual 254, 3) := by decide +kernel
theorem dX11_name_46 : decode cX11_name 46 = .ok (.lconst 0, 1) := by decide +kernel
theorem dX11_name_47 : decode cX11_name 47 = .ok (.lreturn, 1) := by decide +kernel
theorem dX11_name_48 : decode cX11_name 48 = .ok (.aload_n 0, 1) := by decide +kernel
theorem dX11_name_49 : decode cX11_name 49 = .ok (.aload_n 0, 1) := by decide +kernel
theorem dX11_name_50 : decode cX11_name 50 = .ok (.getfield 230, 3) := by decide +kernel
theorem dX11_name_53 : decode cX11_name 53 = .ok (.putfield 272, 3) := by decide +kernel
theorem dX11_name_56 : decode cX11_name 56 = .ok (.lconst 0, 1) := by decide +kernel
theorem dX11_name_57 : decode cX11_name 57 = .ok (.lstore_n 1, 1) := by decide +kernel
theorem dX11_name_58 : decode cX11_name 58 = .ok (.aload_n 0, 1) := by decide +kernel
theorem dX11_name_59 : decode cX11_name 59 = .ok (.getfield 230, 3) := by decide +kernel
theorem dX11_name_62 : decode cX11_name 62 = .ok (.aload_n 0, 1) := by decide +kernel
theorem dX11_name_63 : decode cX11_name 63 = .ok (.getfield 233, 3) := by decide +kernel
theorem dX11_name_66 : decode cX11_name 66 = .ok (.if_icmp .ge 79, 3) := by decide +kernel
theorem dX11_name_69 : decode cX11_name 69 = .ok (.aload_n 0, 1) := by decide +kernel
theorem dX11_name_70 : decode cX11_name 70 = .ok (.getfield 7, 3) := by decide +kernel
theorem dX11_name_73 : decode cX11_name 73 = .ok (.aload_n 0, 1) := by decide +kernel
theorem dX11_name_74 : decode cX11_name 74 = .ok (.getfield 230, 3) := by decide +kernel
theorem dX11_name_77 : decode cX11_name 77 = .ok (.iaload, 1) := by decide +kernel
theorem dX11_name_78 : decode cX11_name 78 = .ok (.invokestatic 240, 3) := by decide +kernel
theorem dX11_name_81 : decode cX11_name 81 = .ok (.ifCond .eq 64, 3) := by decide +kernel
theorem dX11_name_84 : decode cX11_name 84 = .ok (.aload_n 0, 1) := by decide +kernel
theorem dX11_name_85 : decode cX11_name 85 = .ok (.getfield 230, 3) := by decide +kernel
theorem dX11_name_88 : decode cX11_name 88 = .ok (.aload_n 0, 1) := by decide +kernel
theorem dX11_name_89 : decode cX11_name 89 = .ok (.getfield 272, 3) := by decide +kernel
theorem dX11_name_92 : decode cX11_name 92 = .ok (.isub, 1) := by decide +kernel
theorem dX11_name_93 : decode cX11_name 93 = .ok (.bipush 6, 2) := by decide +kernel
theorem dX11_name_95 : decode cX11_name 95 = .ok (.if_icmp .ne 14, 3) := by decide +kernel
theorem dX11_name_98 : decode cX11_name 98 = .ok (.aload_n 0, 1) := by decide +kernel
theorem dX11_name_99 : decode cX11_name 99 = .ok (.iconst 1, 1) := by decide +kernel
theorem dX11_name_100 : decode cX11_name 100 = .ok (.aload_n 0, 1) := by decide +kernel
theorem dX11_name_101 : decode cX11_name 101 = .ok (.getfield 230, 3) := by decide +kernel
theorem dX11_name_104 : decode cX11_name 104 = .ok (.invokevirtual 254, 3) := by decide +kernel
theorem dX11_name_107 : decode cX11_name 107 = .ok (.lconst 0, 1) := by decide +kernel
theorem dX11_name_108 : decode cX11_name 108 = .ok (.lreturn, 1) := by decide +kernel
theorem dX11_name_109 : decode cX11_name 109 = .ok (.ldc2_w 275, 3) := by decide +kernel
theorem dX11_name_112 : decode cX11_name 112 = .ok (.lload_n 1, 1) := by decide +kernel
theorem dX11_name_113 : decode cX11_name 113 = .ok (.lmul, 1) := by decide +kernel
theorem dX11_name_114 : decode cX11_name 114 = .ok (.aload_n 0, 1) := by decide +kernel
theorem dX11_name_115 : decode cX11_name 115 = .ok (.getfield 7, 3) := by decide +kernel
theorem dX11_name_118 : decode cX11_name 118 = .ok (.aload_n 0, 1) := by decide +kernel
theorem dX11_name_119 : decode cX11_name 119 = .ok (.getfield 230, 3) := by decide +kernel
theorem dX11_name_122 : decode cX11_name 122 = .ok (.iaload, 1) := by decide +kernel
theorem dX11_name_123 : decode cX11_name 123 = .ok (.i2l, 1) := by decide +kernel
theorem dX11_name_124 : decode cX11_name 124 = .ok (.ladd, 1) := by decide +kernel
theorem dX11_name_125 : decode cX11_name 125 = .ok (.ldc2_w 277, 3) := by decide +kernel
theorem dX11_name_128 : decode cX11_name 128 = .ok (.lsub, 1) := by decide +kernel
theorem dX11_name_129 : decode cX11_name 129 = .ok (.lconst 1, 1) := by decide +kernel
theorem dX11_name_130 : decode cX11_name 130 = .ok (.ladd, 1) := by decide +kernel
theorem dX11_name_131 : decode cX11_name 131 = .ok (.lstore_n 1, 1) := by decide +kernel
theorem dX11_name_132 : decode cX11_name 132 = .ok (.aload_n 0, 1) := by decide +kernel
theorem dX11_name_133 : decode cX11_name 133 = .ok (.dup, 1) := by decide +kernel
theorem dX11_name_134 : decode cX11_name 134 = .ok (.getfield 230, 3) := by decide +kernel
theorem dX11_name_137 : decode cX11_name 137 = .ok (.iconst 1, 1) := by decide +kernel
theorem dX11_name_138 : decode cX11_name 138 = .ok (.iadd, 1) := by decide +kernel
theorem dX11_name_139 : decode cX11_name 139 = .ok (.putfield 230, 3) := by decide +kernel
theorem dX11_name_142 : decode cX11_name 142 = .ok (.goto (-84), 3) := by decide +kernel
theorem dX11_name_145 : decode cX11_name 145 = .ok (.aload_n 0, 1) := by decide +kernel
theorem dX11_name_146 : decode cX11_name 146 = .ok (.aload_n 0, 1) := by decide +kernel
theorem dX11_name_147 : decode cX11_name 147 = .ok (.getfield 230, 3) := by decide +kernel
theorem dX11_name_150 : decode cX11_name 150 = .ok (.putfield 244, 3) := by decide +kernel
theorem dX11_name_153 : decode cX11_name 153 = .ok (.lload_n 1, 1) := by decide +kernel
theorem dX11_name_154 : decode cX11_name 154 = .ok (.lreturn, 1) := by decide +kernel
theorem dX11_begins_0 : decode cX11_begins 0 = .ok (.aload_n 0, 1) := by decide +kernel
theorem dX11_begins_1 : decode cX11_begins 1 = .ok (.aload_n 0, 1) := by decide +kernel
theorem dX11_begins_2 : decode cX11_begins 2 = .ok (.getfield 221, 3) := by decide +kernel
theorem dX11_begins_5 : decode cX11_begins 5 = .ok (.putfield 233, 3) := by decide +kernel
theorem dX11_begins_8 : decode cX11_begins 8 = .ok (.aload_n 0, 1) := by decide +kernel
theorem dX11_begins_9 : decode cX11_begins 9 = .ok (.iconst 0, 1) := by decide +kernel
theorem dX11_begins_10 : decode cX11_begins 10 = .ok (.putfield 221, 3) := by decide +kernel
theorem dX11_begins_13 : decode cX11_begins 13 = .ok (.aload_n 0, 1) := by decide +kernel
theorem dX11_begins_14 : decode cX11_begins 14 = .ok (.iconst 0, 1) := by decide +kernel
theorem dX11_begins_15 : decode cX11_begins 15 = .ok (.putfield 230, 3) := by decide +kernel
theorem dX11_begins_18 : decode cX11_begins 18 = .ok (.aload_n 0, 1) := by decide +kernel
theorem dX11_begins_19 : decode cX11_begins 19 = .ok (.iconst (-1), 1) := by decide +kernel
theorem dX11_begins_20 : decode cX11_begins 20 = .ok (.putfield 244, 3) := by decide +kernel
theorem dX11_begins_23 : decode cX11_begins 23 = .ok (.aload_n 0, 1) := by decide +kernel
theorem dX11_begins_24 : decode cX11_begins 24 = .ok (.iconst 0, 1) := by decide +kernel
theorem dX11_begins_25 : decode cX11_begins 25 = .ok (.putfield 224, 3) := by decide +kernel
theorem dX11_begins_28 : decode cX11_begins 28 = .ok (.aload_n 0, 1) := by decide +kernel
theorem dX11_begins_29 : decode cX11_begins 29 = .ok (.iconst (-1), 1) := by decide +kernel
theorem dX11_begins_30 : decode cX11_begins 30 = .ok (.putfield 227, 3) := by decide +kernel
theorem dX11_begins_33 : decode cX11_begins 33 = .ok (.aload_n 0, 1) := by decide +kernel
theorem dX11_begins_34 : decode cX11_begins 34 = .ok (.iconst 0, 1) := by decide +kernel
theorem dX11_begins_35 : decode cX11_begins 35 = .ok (.putfield 279, 3) := by decide +kernel
theorem dX11_begins_38 : decode cX11_begins 38 = .ok (.aload_n 0, 1) := by decide +kernel
theorem dX11_begins_39 : decode cX11_begins 39 = .ok (.iconst 0, 1) := by decide +kernel
theorem dX11_begins_40 : decode cX11_begins 40 = .ok (.putfield 282, 3) := by decide +kernel
theorem dX11_begins_43 : decode cX11_begins 43 = .ok (.return_, 1) := by decide +kernel
theorem dX11_nameOf_0 : decode cX11_nameOf 0 = .ok (.iconst 0, 1) := by decide +kernel
theorem dX11_nameOf_1 : decode cX11_nameOf 1 = .ok (.istore 4, 2) := by decide +kernel
theorem dX11_nameOf_3 : decode cX11_nameOf 3 = .ok (.iload 4, 2) := by decide +kernel
theorem dX11_nameOf_5 : decode cX11_nameOf 5 = .ok (.aload_n 0, 1) := by decide +kernel
theorem dX11_nameOf_6 : decode cX11_nameOf 6 = .ok (.getfield 121, 3) := by decide +kernel
theorem dX11_nameOf_9 : decode cX11_nameOf 9 = .ok (.iload_n 1, 1) := by decide +kernel
theorem dX11_nameOf_10 : decode cX11_nameOf 10 = .ok (.iaload, 1) := by decide +kernel
theorem dX11_nameOf_11 : decode cX11_nameOf 11 = .ok (.if_icmp .ge 29, 3) := by decide +kernel
theorem dX11_nameOf_14 : decode cX11_nameOf 14 = .ok (.aload_n 0, 1) := by decide +kernel
theorem dX11_nameOf_15 : decode cX11_nameOf 15 = .ok (.getfield 117, 3) := by decide +kernel
theorem dX11_nameOf_18 : decode cX11_nameOf 18 = .ok (.bipush 12, 2) := by decide +kernel
theorem dX11_nameOf_20 : decode cX11_nameOf 20 = .ok (.iload_n 1, 1) := by decide +kernel
theorem dX11_nameOf_21 : decode cX11_nameOf 21 = .ok (.imul, 1) := by decide +kernel
theorem dX11_nameOf_22 : decode cX11_nameOf 22 = .ok (.iload 4, 2) := by decide +kernel
theorem dX11_nameOf_24 : decode cX11_nameOf 24 = .ok (.iadd, 1) := by decide +kernel
theorem dX11_nameOf_25 : decode cX11_nameOf 25 = .ok (.laload, 1) := by decide +kernel
theorem dX11_nameOf_26 : decode cX11_nameOf 26 = .ok (.lload_n 2, 1) := by decide +kernel
theorem dX11_nameOf_27 : decode cX11_nameOf 27 = .ok (.lcmp, 1) := by decide +kernel
theorem dX11_nameOf_28 : decode cX11_nameOf 28 = .ok (.ifCond .ne 6, 3) := by decide +kernel
theorem dX11_nameOf_31 : decode cX11_nameOf 31 = .ok (.iload 4, 2) := by decide +kernel
theorem dX11_nameOf_33 : decode cX11_nameOf 33 = .ok (.ireturn, 1) := by decide +kernel
theorem dX11_nameOf_34 : decode cX11_nameOf 34 = .ok (.iinc 4 1, 3) := by decide +kernel
theorem dX11_nameOf_37 : decode cX11_nameOf 37 = .ok (.goto (-34), 3) := by decide +kernel
theorem dX11_nameOf_40 : decode cX11_nameOf 40 = .ok (.iconst (-1), 1) := by decide +kernel
theorem dX11_nameOf_41 : decode cX11_nameOf 41 = .ok (.ireturn, 1) := by decide +kernel
theorem dX11_newName_0 : decode cX11_newName 0 = .ok (.aload_n 0, 1) := by decide +kernel
theorem dX11_newName_1 : decode cX11_newName 1 = .ok (.invokevirtual 285, 3) := by decide +kernel
theorem dX11_newName_4 : decode cX11_newName 4 = .ok (.lstore_n 2, 1) := by decide +kernel
theorem dX11_newName_5 : decode cX11_newName 5 = .ok (.iconst 0, 1) := by decide +kernel
theorem dX11_newName_6 : decode cX11_newName 6 = .ok (.istore 4, 2) := by decide +kernel
theorem dX11_newName_8 : decode cX11_newName 8 = .ok (.iload 4, 2) := by decide +kernel
theorem dX11_newName_10 : decode cX11_newName 10 = .ok (.iconst 3, 1) := by decide +kernel
theorem dX11_newName_11 : decode cX11_newName 11 = .ok (.if_icmp .ge 36, 3) := by decide +kernel
theorem dX11_newName_14 : decode cX11_newName 14 = .ok (.aload_n 0, 1) := by decide +kernel
theorem dX11_newName_15 : decode cX11_newName 15 = .ok (.getfield 224, 3) := by decide +kernel
theorem dX11_newName_18 : decode cX11_newName 18 = .ok (.ifCond .ne 29, 3) := by decide +kernel
theorem dX11_newName_21 : decode cX11_newName 21 = .ok (.aload_n 0, 1) := by decide +kernel
theorem dX11_newName_22 : decode cX11_newName 22 = .ok (.iload 4, 2) := by decide +kernel
theorem dX11_newName_24 : decode cX11_newName 24 = .ok (.lload_n 2, 1) := by decide +kernel
theorem dX11_newName_25 : decode cX11_newName 25 = .ok (.invokevirtual 289, 3) := by decide +kernel
theorem dX11_newName_28 : decode cX11_newName 28 = .ok (.iconst (-1), 1) := by decide +kernel
theorem dX11_newName_29 : decode cX11_newName 29 = .ok (.if_icmp .eq 12, 3) := by decide +kernel
theorem dX11_newName_32 : decode cX11_newName 32 = .ok (.aload_n 0, 1) := by decide +kernel
theorem dX11_newName_33 : decode cX11_newName 33 = .ok (.iconst 3, 1) := by decide +kernel
theorem dX11_newName_34 : decode cX11_newName 34 = .ok (.aload_n 0, 1) := by decide +kernel
theorem dX11_newName_35 : decode cX11_newName 35 = .ok (.getfield 272, 3) := by decide +kernel
theorem dX11_newName_38 : decode cX11_newName 38 = .ok (.invokevirtual 254, 3) := by decide +kernel
theorem dX11_newName_41 : decode cX11_newName 41 = .ok (.iinc 4 1, 3) := by decide +kernel
theorem dX11_newName_44 : decode cX11_newName 44 = .ok (.goto (-36), 3) := by decide +kernel
theorem dX11_newName_47 : decode cX11_newName 47 = .ok (.aload_n 0, 1) := by decide +kernel
theorem dX11_newName_48 : decode cX11_newName 48 = .ok (.getfield 121, 3) := by decide +kernel
theorem dX11_newName_51 : decode cX11_newName 51 = .ok (.iload_n 1, 1) := by decide +kernel
theorem dX11_newName_52 : decode cX11_newName 52 = .ok (.iaload, 1) := by decide +kernel
theorem dX11_newName_53 : decode cX11_newName 53 = .ok (.istore 4, 2) := by decide +kernel
theorem dX11_newName_55 : decode cX11_newName 55 = .ok (.aload_n 0, 1) := by decide +kernel
theorem dX11_newName_56 : decode cX11_newName 56 = .ok (.getfield 224, 3) := by decide +kernel
theorem dX11_newName_59 : decode cX11_newName 59 = .ok (.ifCond .eq 6, 3) := by decide +kernel
theorem dX11_newName_62 : decode cX11_newName 62 = .ok (.iload 4, 2) := by decide +kernel
theorem dX11_newName_64 : decode cX11_newName 64 = .ok (.ireturn, 1) := by decide +kernel
theorem dX11_newName_65 : decode cX11_newName 65 = .ok (.aload_n 0, 1) := by decide +kernel
theorem dX11_newName_66 : decode cX11_newName 66 = .ok (.getfield 117, 3) := by decide +kernel
theorem dX11_newName_69 : decode cX11_newName 69 = .ok (.bipush 12, 2) := by decide +kernel
theorem dX11_newName_71 : decode cX11_newName 71 = .ok (.iload_n 1, 1) := by decide +kernel
theorem dX11_newName_72 : decode cX11_newName 72 = .ok (.imul, 1) := by decide +kernel
theorem dX11_newName_73 : decode cX11_newName 73 = .ok (.iload 4, 2) := by decide +kernel
theorem dX11_newName_75 : decode cX11_newName 75 = .ok (.iadd, 1) := by decide +kernel
theorem dX11_newName_76 : decode cX11_newName 76 = .ok (.lload_n 2, 1) := by decide +kernel
theorem dX11_newName_77 : decode cX11_newName 77 = .ok (.lastore, 1) := by decide +kernel
theorem dX11_newName_78 : decode cX11_newName 78 = .ok (.aload_n 0, 1) := by decide +kernel
theorem dX11_newName_79 : decode cX11_newName 79 = .ok (.getfield 121, 3) := by decide +kernel
theorem dX11_newName_82 : decode cX11_newName 82 = .ok (.iload_n 1, 1) := by decide +kernel
theorem dX11_newName_83 : decode cX11_newName 83 = .ok (.dup2, 1) := by decide +kernel
theorem dX11_newName_84 : decode cX11_newName 84 = .ok (.iaload, 1) := by decide +kernel
theorem dX11_newName_85 : decode cX11_newName 85 = .ok (.iconst 1, 1) := by decide +kernel
theorem dX11_newName_86 : decode cX11_newName 86 = .ok (.iadd, 1) := by decide +kernel
theorem dX11_newName_87 : decode cX11_newName 87 = .ok (.iastore, 1) := by decide +kernel
theorem dX11_newName_88 : decode cX11_newName 88 = .ok (.iload 4, 2) := by decide +kernel
theorem dX11_newName_90 : decode cX11_newName 90 = .ok (.ireturn, 1) := by decide +kernel
theorem dX11_oneOf_0 : decode cX11_oneOf 0 = .ok (.aload_n 0, 1) := by decide +kernel
theorem dX11_oneOf_1 : decode cX11_oneOf 1 = .ok (.invokevirtual 285, 3) := by decide +kernel
theorem dX11_oneOf_4 : decode cX11_oneOf 4 = .ok (.lstore_n 2, 1) := by decide +kernel
theorem dX11_oneOf_5 : decode cX11_oneOf 5 = .ok (.aload_n 0, 1) := by decide +kernel
theorem dX11_oneOf_6 : decode cX11_oneOf 6 = .ok (.iload_n 1, 1) := by decide +kernel
theorem dX11_oneOf_7 : decode cX11_oneOf 7 = .ok (.lload_n 2, 1) := by decide +kernel
theorem dX11_oneOf_8 : decode cX11_oneOf 8 = .ok (.invokevirtual 289, 3) := by decide +kernel
theorem dX11_oneOf_11 : decode cX11_oneOf 11 = .ok (.istore 4, 2) := by decide +kernel
theorem dX11_oneOf_13 : decode cX11_oneOf 13 = .ok (.aload_n 0, 1) := by decide +kernel
theorem dX11_oneOf_14 : decode cX11_oneOf 14 = .ok (.getfield 224, 3) := by decide +kernel
theorem dX11_oneOf_17 : decode cX11_oneOf 17 = .ok (.ifCond .ne 18, 3) := by decide +kernel
theorem dX11_oneOf_20 : decode cX11_oneOf 20 = .ok (.iload 4, 2) := by decide +kernel
theorem dX11_oneOf_22 : decode cX11_oneOf 22 = .ok (.iconst (-1), 1) := by decide +kernel
theorem dX11_oneOf_23 : decode cX11_oneOf 23 = .ok (.if_icmp .ne 12, 3) := by decide +kernel
theorem dX11_oneOf_26 : decode cX11_oneOf 26 = .ok (.aload_n 0, 1) := by decide +kernel
theorem dX11_oneOf_27 : decode cX11_oneOf 27 = .ok (.iconst 3, 1) := by decide +kernel
theorem dX11_oneOf_28 : decode cX11_oneOf 28 = .ok (.aload_n 0, 1) := by decide +kernel
theorem dX11_oneOf_29 : decode cX11_oneOf 29 = .ok (.getfield 272, 3) := by decide +kernel
theorem dX11_oneOf_32 : decode cX11_oneOf 32 = .ok (.invokevirtual 254, 3) := by decide +kernel
theorem dX11_oneOf_35 : decode cX11_oneOf 35 = .ok (.iload 4, 2) := by decide +kernel
theorem dX11_oneOf_37 : decode cX11_oneOf 37 = .ok (.iconst (-1), 1) := by decide +kernel
theorem dX11_oneOf_38 : decode cX11_oneOf 38 = .ok (.if_icmp .ne 7, 3) := by decide +kernel
theorem dX11_oneOf_41 : decode cX11_oneOf 41 = .ok (.iconst 0, 1) := by decide +kernel
theorem dX11_oneOf_42 : decode cX11_oneOf 42 = .ok (.goto 5, 3) := by decide +kernel
theorem dX11_oneOf_45 : decode cX11_oneOf 45 = .ok (.iload 4, 2) := by decide +kernel
theorem dX11_oneOf_47 : decode cX11_oneOf 47 = .ok (.ireturn, 1) := by decide +kernel
theorem dX11_isFull_0 : decode cX11_isFull 0 = .ok (.aload_n 0, 1) := by decide +kernel
theorem dX11_isFull_1 : decode cX11_isFull 1 = .ok (.getfield 224, 3) := by decide +kernel
theorem dX11_isFull_4 : decode cX11_isFull 4 = .ok (.ifCond .ne 14, 3) := by decide +kernel
theorem dX11_isFull_7 : decode cX11_isFull 7 = .ok (.iload_n 1, 1) := by decide +kernel
theorem dX11_isFull_8 : decode cX11_isFull 8 = .ok (.iload_n 2, 1) := by decide +kernel
theorem dX11_isFull_9 : decode cX11_isFull 9 = .ok (.if_icmp .ne 9, 3) := by decide +kernel
theorem dX11_isFull_12 : decode cX11_isFull 12 = .ok (.aload_n 0, 1) := by decide +kernel
theorem dX11_isFull_13 : decode cX11_isFull 13 = .ok (.iconst 5, 1) := by decide +kernel
theorem dX11_isFull_14 : decode cX11_isFull 14 = .ok (.iload_n 3, 1) := by decide +kernel
theorem dX11_isFull_15 : decode cX11_isFull 15 = .ok (.invokevirtual 254, 3) := by decide +kernel
theorem dX11_isFull_18 : decode cX11_isFull 18 = .ok (.aload_n 0, 1) := by decide +kernel
theorem dX11_isFull_19 : decode cX11_isFull 19 = .ok (.getfield 224, 3) := by decide +kernel
theorem dX11_isFull_22 : decode cX11_isFull 22 = .ok (.ifCond .eq 7, 3) := by decide +kernel
theorem dX11_isFull_25 : decode cX11_isFull 25 = .ok (.iconst 1, 1) := by decide +kernel
theorem dX11_isFull_26 : decode cX11_isFull 26 = .ok (.goto 4, 3) := by decide +kernel
theorem dX11_isFull_29 : decode cX11_isFull 29 = .ok (.iconst 0, 1) := by decide +kernel
theorem dX11_isFull_30 : decode cX11_isFull 30 = .ok (.ireturn, 1) := by decide +kernel
theorem dX11_sortTold_0 : decode cX11_sortTold 0 = .ok (.aload_n 0, 1) := by decide +kernel
theorem dX11_sortTold_1 : decode cX11_sortTold 1 = .ok (.aload_n 0, 1) := by decide +kernel
theorem dX11_sortTold_2 : decode cX11_sortTold 2 = .ok (.getfield 121, 3) := by decide +kernel
theorem dX11_sortTold_5 : decode cX11_sortTold 5 = .ok (.iconst 0, 1) := by decide +kernel
theorem dX11_sortTold_6 : decode cX11_sortTold 6 = .ok (.iaload, 1) := by decide +kernel
theorem dX11_sortTold_7 : decode cX11_sortTold 7 = .ok (.bipush 6, 2) := by decide +kernel
theorem dX11_sortTold_9 : decode cX11_sortTold 9 = .ok (.iload_n 1, 1) := by decide +kernel
theorem dX11_sortTold_10 : decode cX11_sortTold 10 = .ok (.invokevirtual 293, 3) := by decide +kernel
theorem dX11_sortTold_13 : decode cX11_sortTold 13 = .ok (.ifCond .eq 4, 3) := by decide +kernel
theorem dX11_sortTold_16 : decode cX11_sortTold 16 = .ok (.return_, 1) := by decide +kernel
theorem dX11_sortTold_17 : decode cX11_sortTold 17 = .ok (.iconst 5, 1) := by decide +kernel
theorem dX11_sortTold_18 : decode cX11_sortTold 18 = .ok (.aload_n 0, 1) := by decide +kernel
theorem dX11_sortTold_19 : decode cX11_sortTold 19 = .ok (.iconst 0, 1) := by decide +kernel
theorem dX11_sortTold_20 : decode cX11_sortTold 20 = .ok (.invokevirtual 297, 3) := by decide +kernel
theorem dX11_sortTold_23 : decode cX11_sortTold 23 = .ok (.imul, 1) := by decide +kernel
theorem dX11_sortTold_24 : decode cX11_sortTold 24 = .ok (.istore_n 2, 1) := by decide +kernel
theorem dX11_sortTold_25 : decode cX11_sortTold 25 = .ok (.aload_n 0, 1) := by decide +kernel
theorem dX11_sortTold_26 : decode cX11_sortTold 26 = .ok (.aload_n 0, 1) := by decide +kernel
theorem dX11_sortTold_27 : decode cX11_sortTold 27 = .ok (.getfield 24, 3) := by decide +kernel
theorem dX11_sortTold_30 : decode cX11_sortTold 30 = .ok (.invokevirtual 301, 3) := by decide +kernel
theorem dX11_sortTold_33 : decode cX11_sortTold 33 = .ok (.aload_n 0, 1) := by decide +kernel
theorem dX11_sortTold_34 : decode cX11_sortTold 34 = .ok (.getfield 124, 3) := by decide +kernel
theorem dX11_sortTold_37 : decode cX11_sortTold 37 = .ok (.iload_n 2, 1) := by decide +kernel
theorem dX11_sortTold_38 : decode cX11_sortTold 38 = .ok (.aload_n 0, 1) := by decide +kernel
theorem dX11_sortTold_39 : decode cX11_sortTold 39 = .ok (.iconst 0, 1) := by decide +kernel
theorem dX11_sortTold_40 : decode cX11_sortTold 40 = .ok (.bipush 99, 2) := by decide +kernel
theorem dX11_sortTold_42 : decode cX11_sortTold 42 = .ok (.invokevirtual 305, 3) := by decide +kernel
theorem dX11_sortTold_45 : decode cX11_sortTold 45 = .ok (.iastore, 1) := by decide +kernel
theorem dX11_sortTold_46 : decode cX11_sortTold 46 = .ok (.aload_n 0, 1) := by decide +kernel
theorem dX11_sortTold_47 : decode cX11_sortTold 47 = .ok (.aload_n 0, 1) := by decide +kernel
theorem dX11_sortTold_48 : decode cX11_sortTold 48 = .ok (.getfield 27, 3) := by decide +kernel
theorem dX11_sortTold_51 : decode cX11_sortTold 51 = .ok (.invokevirtual 301, 3) := by decide +kernel
theorem dX11_sortTold_54 : decode cX11_sortTold 54 = .ok (.aload_n 0, 1) := by decide +kernel
theorem dX11_sortTold_55 : decode cX11_sortTold 55 = .ok (.getfield 124, 3) := by decide +kernel
theorem dX11_sortTold_58 : decode cX11_sortTold 58 = .ok (.iload_n 2, 1) := by decide +kernel
theorem dX11_sortTold_59 : decode cX11_sortTold 59 = .ok (.iconst 1, 1) := by decide +kernel
theorem dX11_sortTold_60 : decode cX11_sortTold 60 = .ok (.iadd, 1) := by decide +kernel
theorem dX11_sortTold_61 : decode cX11_sortTold 61 = .ok (.aload_n 0, 1) := by decide +kernel
theorem dX11_sortTold_62 : decode cX11_sortTold 62 = .ok (.iconst 0, 1) := by decide +kernel
theorem dX11_sortTold_63 : decode cX11_sortTold 63 = .ok (.bipush 99, 2) := by decide +kernel
theorem dX11_sortTold_65 : decode cX11_sortTold 65 = .ok (.invokevirtual 305, 3) := by decide +kernel
theorem dX11_sortTold_68 : decode cX11_sortTold 68 = .ok (.iastore, 1) := by decide +kernel
theorem dX11_sortTold_69 : decode cX11_sortTold 69 = .ok (.aload_n 0, 1) := by decide +kernel
theorem dX11_sortTold_70 : decode cX11_sortTold 70 = .ok (.aload_n 0, 1) := by decide +kernel
theorem dX11_sortTold_71 : decode cX11_sortTold 71 = .ok (.getfield 30, 3) := by decide +kernel
theorem dX11_sortTold_74 : decode cX11_sortTold 74 = .ok (.invokevirtual 301, 3) := by decide +kernel
theorem dX11_sortTold_77 : decode cX11_sortTold 77 = .ok (.aload_n 0, 1) := by decide +kernel
theorem dX11_sortTold_78 : decode cX11_sortTold 78 = .ok (.getfield 124, 3) := by decide +kernel
theorem dX11_sortTold_81 : decode cX11_sortTold 81 = .ok (.iload_n 2, 1) := by decide +kernel
theorem dX11_sortTold_82 : decode cX11_sortTold 82 = .ok (.iconst 2, 1) := by decide +kernel
theorem dX11_sortTold_83 : decode cX11_sortTold 83 = .ok (.iadd, 1) := by decide +kernel
theorem dX11_sortTold_84 : decode cX11_sortTold 84 = .ok (.aload_n 0, 1) := by decide +kernel
theorem dX11_sortTold_85 : decode cX11_sortTold 85 = .ok (.iconst 0, 1) := by decide +kernel
theorem dX11_sortTold_86 : decode cX11_sortTold 86 = .ok (.bipush 100, 2) := by decide +kernel
theorem dX11_sortTold_88 : decode cX11_sortTold 88 = .ok (.invokevirtual 305, 3) := by decide +kernel
theorem dX11_sortTold_91 : decode cX11_sortTold 91 = .ok (.iastore, 1) := by decide +kernel
theorem dX11_sortTold_92 : decode cX11_sortTold 92 = .ok (.aload_n 0, 1) := by decide +kernel
theorem dX11_sortTold_93 : decode cX11_sortTold 93 = .ok (.aload_n 0, 1) := by decide +kernel
theorem dX11_sortTold_94 : decode cX11_sortTold 94 = .ok (.getfield 33, 3) := by decide +kernel
theorem dX11_sortTold_97 : decode cX11_sortTold 97 = .ok (.invokevirtual 301, 3) := by decide +kernel
theorem dX11_sortTold_100 : decode cX11_sortTold 100 = .ok (.aload_n 0, 1) := by decide +kernel
theorem dX11_sortTold_101 : decode cX11_sortTold 101 = .ok (.getfield 124, 3) := by decide +kernel
theorem dX11_sortTold_104 : decode cX11_sortTold 104 = .ok (.iload_n 2, 1) := by decide +kernel
theorem dX11_sortTold_105 : decode cX11_sortTold 105 = .ok (.iconst 3, 1) := by decide +kernel
theorem dX11_sortTold_106 : decode cX11_sortTold 106 = .ok (.iadd, 1) := by decide +kernel
theorem dX11_sortTold_107 : decode cX11_sortTold 107 = .ok (.aload_n 0, 1) := by decide +kernel
theorem dX11_sortTold_108 : decode cX11_sortTold 108 = .ok (.iconst 0, 1) := by decide +kernel
theorem dX11_sortTold_109 : decode cX11_sortTold 109 = .ok (.sipush 999, 3) := by decide +kernel
theorem dX11_sortTold_112 : decode cX11_sortTold 112 = .ok (.invokevirtual 305, 3) := by decide +kernel
theorem dX11_sortTold_115 : decode cX11_sortTold 115 = .ok (.iastore, 1) := by decide +kernel
theorem dX11_sortTold_116 : decode cX11_sortTold 116 = .ok (.aload_n 0, 1) := by decide +kernel
theorem dX11_sortTold_117 : decode cX11_sortTold 117 = .ok (.aload_n 0, 1) := by decide +kernel
theorem dX11_sortTold_118 : decode cX11_sortTold 118 = .ok (.getfield 36, 3) := by decide +kernel
theorem dX11_sortTold_121 : decode cX11_sortTold 121 = .ok (.invokevirtual 301, 3) := by decide +kernel
theorem dX11_sortTold_124 : decode cX11_sortTold 124 = .ok (.aload_n 0, 1) := by decide +kernel
theorem dX11_sortTold_125 : decode cX11_sortTold 125 = .ok (.getfield 124, 3) := by decide +kernel
theorem dX11_sortTold_128 : decode cX11_sortTold 128 = .ok (.iload_n 2, 1) := by decide +kernel
theorem dX11_sortTold_129 : decode cX11_sortTold 129 = .ok (.iconst 4, 1) := by decide +kernel
theorem dX11_sortTold_130 : decode cX11_sortTold 130 = .ok (.iadd, 1) := by decide +kernel
theorem dX11_sortTold_131 : decode cX11_sortTold 131 = .ok (.aload_n 0, 1) := by decide +kernel
theorem dX11_sortTold_132 : decode cX11_sortTold 132 = .ok (.iconst 1, 1) := by decide +kernel
theorem dX11_sortTold_133 : decode cX11_sortTold 133 = .ok (.bipush 9, 2) := by decide +kernel
theorem dX11_sortTold_135 : decode cX11_sortTold 135 = .ok (.invokevirtual 305, 3) := by decide +kernel
theorem dX11_sortTold_138 : decode cX11_sortTold 138 = .ok (.iastore, 1) := by decide +kernel
theorem dX11_sortTold_139 : decode cX11_sortTold 139 = .ok (.return_, 1) := by decide +kernel
theorem dX11_hatTold_0 : decode cX11_hatTold 0 = .ok (.aload_n 0, 1) := by decide +kernel
theorem dX11_hatTold_1 : decode cX11_hatTold 1 = .ok (.aload_n 0, 1) := by decide +kernel
theorem dX11_hatTold_2 : decode cX11_hatTold 2 = .ok (.getfield 121, 3) := by decide +kernel
theorem dX11_hatTold_5 : decode cX11_hatTold 5 = .ok (.iconst 1, 1) := by decide +kernel
theorem dX11_hatTold_6 : decode cX11_hatTold 6 = .ok (.iaload, 1) := by decide +kernel
theorem dX11_hatTold_7 : decode cX11_hatTold 7 = .ok (.iconst 4, 1) := by decide +kernel
theorem dX11_hatTold_8 : decode cX11_hatTold 8 = .ok (.iload_n 1, 1) := by decide +kernel
theorem dX11_hatTold_9 : decode cX11_hatTold 9 = .ok (.invokevirtual 293, 3) := by decide +kernel
theorem dX11_hatTold_12 : decode cX11_hatTold 12 = .ok (.ifCond .eq 4, 3) := by decide +kernel
theorem dX11_hatTold_15 : decode cX11_hatTold 15 = .ok (.return_, 1) := by decide +kernel
theorem dX11_hatTold_16 : decode cX11_hatTold 16 = .ok (.iconst 4, 1) := by decide +kernel
theorem dX11_hatTold_17 : decode cX11_hatTold 17 = .ok (.aload_n 0, 1) := by decide +kernel
theorem dX11_hatTold_18 : decode cX11_hatTold 18 = .ok (.iconst 1, 1) := by decide +kernel
theorem dX11_hatTold_19 : decode cX11_hatTold 19 = .ok (.invokevirtual 297, 3) := by decide +kernel
theorem dX11_hatTold_22 : decode cX11_hatTold 22 = .ok (.imul, 1) := by decide +kernel
theorem dX11_hatTold_23 : decode cX11_hatTold 23 = .ok (.istore_n 2, 1) := by decide +kernel
theorem dX11_hatTold_24 : decode cX11_hatTold 24 = .ok (.aload_n 0, 1) := by decide +kernel
theorem dX11_hatTold_25 : decode cX11_hatTold 25 = .ok (.aload_n 0, 1) := by decide +kernel
theorem dX11_hatTold_26 : decode cX11_hatTold 26 = .ok (.getfield 42, 3) := by decide +kernel
theorem dX11_hatTold_29 : decode cX11_hatTold 29 = .ok (.invokevirtual 301, 3) := by decide +kernel
theorem dX11_hatTold_32 : decode cX11_hatTold 32 = .ok (.aload_n 0, 1) := by decide +kernel
theorem dX11_hatTold_33 : decode cX11_hatTold 33 = .ok (.getfield 127, 3) := by decide +kernel
theorem dX11_hatTold_36 : decode cX11_hatTold 36 = .ok (.iload_n 2, 1) := by decide +kernel
theorem dX11_hatTold_37 : decode cX11_hatTold 37 = .ok (.aload_n 0, 1) := by decide +kernel
theorem dX11_hatTold_38 : decode cX11_hatTold 38 = .ok (.iconst 0, 1) := by decide +kernel
theorem dX11_hatTold_39 : decode cX11_hatTold 39 = .ok (.bipush 100, 2) := by decide +kernel
theorem dX11_hatTold_41 : decode cX11_hatTold 41 = .ok (.invokevirtual 305, 3) := by decide +kernel
theorem dX11_hatTold_44 : decode cX11_hatTold 44 = .ok (.iastore, 1) := by decide +kernel
theorem dX11_hatTold_45 : decode cX11_hatTold 45 = .ok (.aload_n 0, 1) := by decide +kernel
theorem dX11_hatTold_46 : decode cX11_hatTold 46 = .ok (.aload_n 0, 1) := by decide +kernel
theorem dX11_hatTold_47 : decode cX11_hatTold 47 = .ok (.getfield 45, 3) := by decide +kernel
theorem dX11_hatTold_50 : decode cX11_hatTold 50 = .ok (.invokevirtual 301, 3) := by decide +kernel
theorem dX11_hatTold_53 : decode cX11_hatTold 53 = .ok (.aload_n 0, 1) := by decide +kernel
theorem dX11_hatTold_54 : decode cX11_hatTold 54 = .ok (.getfield 127, 3) := by decide +kernel
theorem dX11_hatTold_57 : decode cX11_hatTold 57 = .ok (.iload_n 2, 1) := by decide +kernel
theorem dX11_hatTold_58 : decode cX11_hatTold 58 = .ok (.iconst 1, 1) := by decide +kernel
theorem dX11_hatTold_59 : decode cX11_hatTold 59 = .ok (.iadd, 1) := by decide +kernel
theorem dX11_hatTold_60 : decode cX11_hatTold 60 = .ok (.aload_n 0, 1) := by decide +kernel
theorem dX11_hatTold_61 : decode cX11_hatTold 61 = .ok (.iconst 0, 1) := by decide +kernel
theorem dX11_hatTold_62 : decode cX11_hatTold 62 = .ok (.bipush 60, 2) := by decide +kernel
theorem dX11_hatTold_64 : decode cX11_hatTold 64 = .ok (.invokevirtual 305, 3) := by decide +kernel
theorem dX11_hatTold_67 : decode cX11_hatTold 67 = .ok (.iastore, 1) := by decide +kernel
theorem dX11_hatTold_68 : decode cX11_hatTold 68 = .ok (.aload_n 0, 1) := by decide +kernel
theorem dX11_hatTold_69 : decode cX11_hatTold 69 = .ok (.aload_n 0, 1) := by decide +kernel
theorem dX11_hatTold_70 : decode cX11_hatTold 70 = .ok (.getfield 48, 3) := by decide +kernel
theorem dX11_hatTold_73 : decode cX11_hatTold 73 = .ok (.invokevirtual 301, 3) := by decide +kernel
theorem dX11_hatTold_76 : decode cX11_hatTold 76 = .ok (.aload_n 0, 1) := by decide +kernel
theorem dX11_hatTold_77 : decode cX11_hatTold 77 = .ok (.getfield 127, 3) := by decide +kernel
theorem dX11_hatTold_80 : decode cX11_hatTold 80 = .ok (.iload_n 2, 1) := by decide +kernel
theorem dX11_hatTold_81 : decode cX11_hatTold 81 = .ok (.iconst 2, 1) := by decide +kernel
theorem dX11_hatTold_82 : decode cX11_hatTold 82 = .ok (.iadd, 1) := by decide +kernel
theorem dX11_hatTold_83 : decode cX11_hatTold 83 = .ok (.aload_n 0, 1) := by decide +kernel
theorem dX11_hatTold_84 : decode cX11_hatTold 84 = .ok (.iconst 0, 1) := by decide +kernel
theorem dX11_hatTold_85 : decode cX11_hatTold 85 = .ok (.bipush 100, 2) := by decide +kernel
theorem dX11_hatTold_87 : decode cX11_hatTold 87 = .ok (.invokevirtual 305, 3) := by decide +kernel
theorem dX11_hatTold_90 : decode cX11_hatTold 90 = .ok (.iastore, 1) := by decide +kernel
theorem dX11_hatTold_91 : decode cX11_hatTold 91 = .ok (.aload_n 0, 1) := by decide +kernel
theorem dX11_hatTold_92 : decode cX11_hatTold 92 = .ok (.aload_n 0, 1) := by decide +kernel
theorem dX11_hatTold_93 : decode cX11_hatTold 93 = .ok (.getfield 51, 3) := by decide +kernel
theorem dX11_hatTold_96 : decode cX11_hatTold 96 = .ok (.invokevirtual 251, 3) := by decide +kernel
theorem dX11_hatTold_99 : decode cX11_hatTold 99 = .ok (.ifCond .eq 7, 3) := by decide +kernel
theorem dX11_hatTold_102 : decode cX11_hatTold 102 = .ok (.iconst 0, 1) := by decide +kernel
theorem dX11_hatTold_103 : decode cX11_hatTold 103 = .ok (.goto 34, 3) := by decide +kernel
theorem dX11_hatTold_106 : decode cX11_hatTold 106 = .ok (.aload_n 0, 1) := by decide +kernel
theorem dX11_hatTold_107 : decode cX11_hatTold 107 = .ok (.aload_n 0, 1) := by decide +kernel
theorem dX11_hatTold_108 : decode cX11_hatTold 108 = .ok (.getfield 54, 3) := by decide +kernel
theorem dX11_hatTold_111 : decode cX11_hatTold 111 = .ok (.invokevirtual 251, 3) := by decide +kernel
theorem dX11_hatTold_114 : decode cX11_hatTold 114 = .ok (.ifCond .eq 7, 3) := by decide +kernel
theorem dX11_hatTold_117 : decode cX11_hatTold 117 = .ok (.iconst 1, 1) := by decide +kernel
theorem dX11_hatTold_118 : decode cX11_hatTold 118 = .ok (.goto 19, 3) := by decide +kernel
theorem dX11_hatTold_121 : decode cX11_hatTold 121 = .ok (.aload_n 0, 1) := by decide +kernel
theorem dX11_hatTold_122 : decode cX11_hatTold 122 = .ok (.aload_n 0, 1) := by decide +kernel
theorem dX11_hatTold_123 : decode cX11_hatTold 123 = .ok (.getfield 57, 3) := by decide +kernel
theorem dX11_hatTold_126 : decode cX11_hatTold 126 = .ok (.invokevirtual 251, 3) := by decide +kernel
theorem dX11_hatTold_129 : decode cX11_hatTold 129 = .ok (.ifCond .eq 7, 3) := by decide +kernel
theorem dX11_hatTold_132 : decode cX11_hatTold 132 = .ok (.iconst 2, 1) := by decide +kernel
theorem dX11_hatTold_133 : decode cX11_hatTold 133 = .ok (.goto 4, 3) := by decide +kernel
theorem dX11_hatTold_136 : decode cX11_hatTold 136 = .ok (.iconst 3, 1) := by decide +kernel
theorem dX11_hatTold_137 : decode cX11_hatTold 137 = .ok (.istore_n 3, 1) := by decide +kernel
theorem dX11_hatTold_138 : decode cX11_hatTold 138 = .ok (.iload_n 3, 1) := by decide +kernel
theorem dX11_hatTold_139 : decode cX11_hatTold 139 = .ok (.iconst 3, 1) := by decide +kernel
theorem dX11_hatTold_140 : decode cX11_hatTold 140 = .ok (.if_icmp .ne 11, 3) := by decide +kernel
theorem dX11_hatTold_143 : decode cX11_hatTold 143 = .ok (.aload_n 0, 1) := by decide +kernel
theorem dX11_hatTold_144 : decode cX11_hatTold 144 = .ok (.aload_n 0, 1) := by decide +kernel
theorem dX11_hatTold_145 : decode cX11_hatTold 145 = .ok (.getfield 60, 3) := by decide +kernel
theorem dX11_hatTold_148 : decode cX11_hatTold 148 = .ok (.invokevirtual 301, 3) := by decide +kernel
theorem dX11_hatTold_151 : decode cX11_hatTold 151 = .ok (.aload_n 0, 1) := by decide +kernel
theorem dX11_hatTold_152 : decode cX11_hatTold 152 = .ok (.getfield 127, 3) := by decide +kernel
theorem dX11_hatTold_155 : decode cX11_hatTold 155 = .ok (.iload_n 2, 1) := by decide +kernel
theorem dX11_hatTold_156 : decode cX11_hatTold 156 = .ok (.iconst 3, 1) := by decide +kernel
theorem dX11_hatTold_157 : decode cX11_hatTold 157 = .ok (.iadd, 1) := by decide +kernel
theorem dX11_hatTold_158 : decode cX11_hatTold 158 = .ok (.iload_n 3, 1) := by decide +kernel
theorem dX11_hatTold_159 : decode cX11_hatTold 159 = .ok (.iastore, 1) := by decide +kernel
theorem dX11_hatTold_160 : decode cX11_hatTold 160 = .ok (.return_, 1) := by decide +kernel
theorem dX11_personTold_0 : decode cX11_personTold 0 = .ok (.aload_n 0, 1) := by decide +kernel
theorem dX11_personTold_1 : decode cX11_personTold 1 = .ok (.aload_n 0, 1) := by decide +kernel
theorem dX11_personTold_2 : decode cX11_personTold 2 = .ok (.getfield 121, 3) := by decide +kernel
theorem dX11_personTold_5 : decode cX11_personTold 5 = .ok (.iconst 2, 1) := by decide +kernel
theorem dX11_personTold_6 : decode cX11_personTold 6 = .ok (.iaload, 1) := by decide +kernel
theorem dX11_personTold_7 : decode cX11_personTold 7 = .ok (.bipush 12, 2) := by decide +kernel
theorem dX11_personTold_9 : decode cX11_personTold 9 = .ok (.iload_n 1, 1) := by decide +kernel
theorem dX11_personTold_10 : decode cX11_personTold 10 = .ok (.invokevirtual 293, 3) := by decide +kernel
theorem dX11_personTold_13 : decode cX11_personTold 13 = .ok (.ifCond .eq 4, 3) := by decide +kernel
theorem dX11_personTold_16 : decode cX11_personTold 16 = .ok (.return_, 1) := by decide +kernel
theorem dX11_personTold_17 : decode cX11_personTold 17 = .ok (.aload_n 0, 1) := by decide +kernel
theorem dX11_personTold_18 : decode cX11_personTold 18 = .ok (.iconst 2, 1) := by decide +kernel
theorem dX11_personTold_19 : decode cX11_personTold 19 = .ok (.invokevirtual 297, 3) := by decide +kernel
theorem dX11_personTold_22 : decode cX11_personTold 22 = .ok (.istore_n 2, 1) := by decide +kernel
theorem dX11_personTold_23 : decode cX11_personTold 23 = .ok (.aload_n 0, 1) := by decide +kernel
theorem dX11_personTold_24 : decode cX11_personTold 24 = .ok (.aload_n 0, 1) := by decide +kernel
theorem dX11_personTold_25 : decode cX11_personTold 25 = .ok (.getfield 21, 3) := by decide +kernel
theorem dX11_personTold_28 : decode cX11_personTold 28 = .ok (.invokevirtual 301, 3) := by decide +kernel
theorem dX11_personTold_31 : decode cX11_personTold 31 = .ok (.aload_n 0, 1) := by decide +kernel
theorem dX11_personTold_32 : decode cX11_personTold 32 = .ok (.getfield 130, 3) := by decide +kernel
theorem dX11_personTold_35 : decode cX11_personTold 35 = .ok (.iload_n 2, 1) := by decide +kernel
theorem dX11_personTold_36 : decode cX11_personTold 36 = .ok (.aload_n 0, 1) := by decide +kernel
theorem dX11_personTold_37 : decode cX11_personTold 37 = .ok (.iconst 0, 1) := by decide +kernel
theorem dX11_personTold_38 : decode cX11_personTold 38 = .ok (.invokevirtual 309, 3) := by decide +kernel
theorem dX11_personTold_41 : decode cX11_personTold 41 = .ok (.iastore, 1) := by decide +kernel
theorem dX11_personTold_42 : decode cX11_personTold 42 = .ok (.aload_n 0, 1) := by decide +kernel
theorem dX11_personTold_43 : decode cX11_personTold 43 = .ok (.getfield 133, 3) := by decide +kernel
theorem dX11_personTold_46 : decode cX11_personTold 46 = .ok (.iload_n 2, 1) := by decide +kernel
theorem dX11_personTold_47 : decode cX11_personTold 47 = .ok (.iconst (-1), 1) := by decide +kernel
theorem dX11_personTold_48 : decode cX11_personTold 48 = .ok (.iastore, 1) := by decide +kernel
theorem dX11_personTold_49 : decode cX11_personTold 49 = .ok (.aload_n 0, 1) := by decide +kernel
theorem dX11_personTold_50 : decode cX11_personTold 50 = .ok (.getfield 136, 3) := by decide +kernel
theorem dX11_personTold_53 : decode cX11_personTold 53 = .ok (.iload_n 2, 1) := by decide +kernel
theorem dX11_personTold_54 : decode cX11_personTold 54 = .ok (.iconst (-1), 1) := by decide +kernel
theorem dX11_personTold_55 : decode cX11_personTold 55 = .ok (.iastore, 1) := by decide +kernel
theorem dX11_personTold_56 : decode cX11_personTold 56 = .ok (.return_, 1) := by decide +kernel
theorem dX11_inTold_0 : decode cX11_inTold 0 = .ok (.aload_n 0, 1) := by decide +kernel
theorem dX11_inTold_1 : decode cX11_inTold 1 = .ok (.iconst 2, 1) := by decide +kernel
theorem dX11_inTold_2 : decode cX11_inTold 2 = .ok (.invokevirtual 309, 3) := by decide +kernel
theorem dX11_inTold_5 : decode cX11_inTold 5 = .ok (.istore_n 1, 1) := by decide +kernel
theorem dX11_inTold_6 : decode cX11_inTold 6 = .ok (.aload_n 0, 1) := by decide +kernel
theorem dX11_inTold_7 : decode cX11_inTold 7 = .ok (.iconst 1, 1) := by decide +kernel
theorem dX11_inTold_8 : decode cX11_inTold 8 = .ok (.invokevirtual 309, 3) := by decide +kernel
theorem dX11_inTold_11 : decode cX11_inTold 11 = .ok (.istore_n 2, 1) := by decide +kernel
theorem dX11_inTold_12 : decode cX11_inTold 12 = .ok (.aload_n 0, 1) := by decide +kernel
theorem dX11_inTold_13 : decode cX11_inTold 13 = .ok (.getfield 224, 3) := by decide +kernel
theorem dX11_inTold_16 : decode cX11_inTold 16 = .ok (.ifCond .ne 10, 3) := by decide +kernel
theorem dX11_inTold_19 : decode cX11_inTold 19 = .ok (.aload_n 0, 1) := by decide +kernel
theorem dX11_inTold_20 : decode cX11_inTold 20 = .ok (.getfield 133, 3) := by decide +kernel
theorem dX11_inTold_23 : decode cX11_inTold 23 = .ok (.iload_n 1, 1) := by decide +kernel
theorem dX11_inTold_24 : decode cX11_inTold 24 = .ok (.iload_n 2, 1) := by decide +kernel
theorem dX11_inTold_25 : decode cX11_inTold 25 = .ok (.iastore, 1) := by decide +kernel
theorem dX11_inTold_26 : decode cX11_inTold 26 = .ok (.return_, 1) := by decide +kernel
theorem dX11_unpaired_0 : decode cX11_unpaired 0 = .ok (.aload_n 0, 1) := by decide +kernel
theorem dX11_unpaired_1 : decode cX11_unpaired 1 = .ok (.iconst 2, 1) := by decide +kernel
theorem dX11_unpaired_2 : decode cX11_unpaired 2 = .ok (.invokevirtual 309, 3) := by decide +kernel
theorem dX11_unpaired_5 : decode cX11_unpaired 5 = .ok (.istore_n 2, 1) := by decide +kernel
theorem dX11_unpaired_6 : decode cX11_unpaired 6 = .ok (.aload_n 0, 1) := by decide +kernel
theorem dX11_unpaired_7 : decode cX11_unpaired 7 = .ok (.getfield 224, 3) := by decide +kernel
theorem dX11_unpaired_10 : decode cX11_unpaired 10 = .ok (.ifCond .ne 27, 3) := by decide +kernel
theorem dX11_unpaired_13 : decode cX11_unpaired 13 = .ok (.iload_n 2, 1) := by decide +kernel
theorem dX11_unpaired_14 : decode cX11_unpaired 14 = .ok (.iload_n 1, 1) := by decide +kernel
theorem dX11_unpaired_15 : decode cX11_unpaired 15 = .ok (.if_icmp .eq 13, 3) := by decide +kernel
theorem dX11_unpaired_18 : decode cX11_unpaired 18 = .ok (.aload_n 0, 1) := by decide +kernel
theorem dX11_unpaired_19 : decode cX11_unpaired 19 = .ok (.getfield 136, 3) := by decide +kernel
theorem dX11_unpaired_22 : decode cX11_unpaired 22 = .ok (.iload_n 2, 1) := by decide +kernel
theorem dX11_unpaired_23 : decode cX11_unpaired 23 = .ok (.iaload, 1) := by decide +kernel
theorem dX11_unpaired_24 : decode cX11_unpaired 24 = .ok (.iconst (-1), 1) := by decide +kernel
theorem dX11_unpaired_25 : decode cX11_unpaired 25 = .ok (.if_icmp .eq 12, 3) := by decide +kernel
theorem dX11_unpaired_28 : decode cX11_unpaired 28 = .ok (.aload_n 0, 1) := by decide +kernel
theorem dX11_unpaired_29 : decode cX11_unpaired 29 = .ok (.iconst 3, 1) := by decide +kernel
theorem dX11_unpaired_30 : decode cX11_unpaired 30 = .ok (.aload_n 0, 1) := by decide +kernel
theorem dX11_unpaired_31 : decode cX11_unpaired 31 = .ok (.getfield 272, 3) := by decide +kernel
theorem dX11_unpaired_34 : decode cX11_unpaired 34 = .ok (.invokevirtual 254, 3) := by decide +kernel
theorem dX11_unpaired_37 : decode cX11_unpaired 37 = .ok (.iload_n 2, 1) := by decide +kernel
theorem dX11_unpaired_38 : decode cX11_unpaired 38 = .ok (.ireturn, 1) := by decide +kernel
theorem dX11_pairTold_0 : decode cX11_pairTold 0 = .ok (.aload_n 0, 1) := by decide +kernel
theorem dX11_pairTold_1 : decode cX11_pairTold 1 = .ok (.iconst (-1), 1) := by decide +kernel
theorem dX11_pairTold_2 : decode cX11_pairTold 2 = .ok (.invokevirtual 312, 3) := by decide +kernel
theorem dX11_pairTold_5 : decode cX11_pairTold 5 = .ok (.istore_n 1, 1) := by decide +kernel
theorem dX11_pairTold_6 : decode cX11_pairTold 6 = .ok (.aload_n 0, 1) := by decide +kernel
theorem dX11_pairTold_7 : decode cX11_pairTold 7 = .ok (.iload_n 1, 1) := by decide +kernel
theorem dX11_pairTold_8 : decode cX11_pairTold 8 = .ok (.invokevirtual 312, 3) := by decide +kernel
theorem dX11_pairTold_11 : decode cX11_pairTold 11 = .ok (.istore_n 2, 1) := by decide +kernel
theorem dX11_pairTold_12 : decode cX11_pairTold 12 = .ok (.aload_n 0, 1) := by decide +kernel
theorem dX11_pairTold_13 : decode cX11_pairTold 13 = .ok (.getfield 224, 3) := by decide +kernel
theorem dX11_pairTold_16 : decode cX11_pairTold 16 = .ok (.ifCond .eq 4, 3) := by decide +kernel
theorem dX11_pairTold_19 : decode cX11_pairTold 19 = .ok (.return_, 1) := by decide +kernel
theorem dX11_pairTold_20 : decode cX11_pairTold 20 = .ok (.aload_n 0, 1) := by decide +kernel
theorem dX11_pairTold_21 : decode cX11_pairTold 21 = .ok (.getfield 136, 3) := by decide +kernel
theorem dX11_pairTold_24 : decode cX11_pairTold 24 = .ok (.iload_n 1, 1) := by decide +kernel
theorem dX11_pairTold_25 : decode cX11_pairTold 25 = .ok (.iload_n 2, 1) := by decide +kernel
theorem dX11_pairTold_26 : decode cX11_pairTold 26 = .ok (.iastore, 1) := by decide +kernel
theorem dX11_pairTold_27 : decode cX11_pairTold 27 = .ok (.aload_n 0, 1) := by decide +kernel
theorem dX11_pairTold_28 : decode cX11_pairTold 28 = .ok (.getfield 136, 3) := by decide +kernel
theorem dX11_pairTold_31 : decode cX11_pairTold 31 = .ok (.iload_n 2, 1) := by decide +kernel
theorem dX11_pairTold_32 : decode cX11_pairTold 32 = .ok (.iload_n 1, 1) := by decide +kernel
theorem dX11_pairTold_33 : decode cX11_pairTold 33 = .ok (.iastore, 1) := by decide +kernel
theorem dX11_pairTold_34 : decode cX11_pairTold 34 = .ok (.aload_n 0, 1) := by decide +kernel
theorem dX11_pairTold_35 : decode cX11_pairTold 35 = .ok (.getfield 139, 3) := by decide +kernel
theorem dX11_pairTold_38 : decode cX11_pairTold 38 = .ok (.aload_n 0, 1) := by decide +kernel
theorem dX11_pairTold_39 : decode cX11_pairTold 39 = .ok (.getfield 315, 3) := by decide +kernel
theorem dX11_pairTold_42 : decode cX11_pairTold 42 = .ok (.iload_n 1, 1) := by decide +kernel
theorem dX11_pairTold_43 : decode cX11_pairTold 43 = .ok (.iastore, 1) := by decide +kernel
theorem dX11_pairTold_44 : decode cX11_pairTold 44 = .ok (.aload_n 0, 1) := by decide +kernel
theorem dX11_pairTold_45 : decode cX11_pairTold 45 = .ok (.dup, 1) := by decide +kernel
theorem dX11_pairTold_46 : decode cX11_pairTold 46 = .ok (.getfield 315, 3) := by decide +kernel
theorem dX11_pairTold_49 : decode cX11_pairTold 49 = .ok (.iconst 1, 1) := by decide +kernel
theorem dX11_pairTold_50 : decode cX11_pairTold 50 = .ok (.iadd, 1) := by decide +kernel
theorem dX11_pairTold_51 : decode cX11_pairTold 51 = .ok (.putfield 315, 3) := by decide +kernel
theorem dX11_pairTold_54 : decode cX11_pairTold 54 = .ok (.return_, 1) := by decide +kernel
theorem dX11_townTold_0 : decode cX11_townTold 0 = .ok (.aload_n 0, 1) := by decide +kernel
theorem dX11_townTold_1 : decode cX11_townTold 1 = .ok (.getfield 230, 3) := by decide +kernel
theorem dX11_townTold_4 : decode cX11_townTold 4 = .ok (.istore_n 1, 1) := by decide +kernel
theorem dX11_townTold_5 : decode cX11_townTold 5 = .ok (.aload_n 0, 1) := by decide +kernel
theorem dX11_townTold_6 : decode cX11_townTold 6 = .ok (.getfield 279, 3) := by decide +kernel
theorem dX11_townTold_9 : decode cX11_townTold 9 = .ok (.bipush 100, 2) := by decide +kernel
theorem dX11_townTold_11 : decode cX11_townTold 11 = .ok (.if_icmp .ne 10, 3) := by decide +kernel
theorem dX11_townTold_14 : decode cX11_townTold 14 = .ok (.aload_n 0, 1) := by decide +kernel
theorem dX11_townTold_15 : decode cX11_townTold 15 = .ok (.iconst 5, 1) := by decide +kernel
theorem dX11_townTold_16 : decode cX11_townTold 16 = .ok (.iload_n 1, 1) := by decide +kernel
theorem dX11_townTold_17 : decode cX11_townTold 17 = .ok (.invokevirtual 254, 3) := by decide +kernel
theorem dX11_townTold_20 : decode cX11_townTold 20 = .ok (.return_, 1) := by decide +kernel
theorem dX11_townTold_21 : decode cX11_townTold 21 = .ok (.aload_n 0, 1) := by decide +kernel
theorem dX11_townTold_22 : decode cX11_townTold 22 = .ok (.aload_n 0, 1) := by decide +kernel
theorem dX11_townTold_23 : decode cX11_townTold 23 = .ok (.getfield 17, 3) := by decide +kernel
theorem dX11_townTold_26 : decode cX11_townTold 26 = .ok (.invokevirtual 251, 3) := by decide +kernel
theorem dX11_townTold_29 : decode cX11_townTold 29 = .ok (.ifCond .eq 17, 3) := by decide +kernel
theorem dX11_townTold_32 : decode cX11_townTold 32 = .ok (.aload_n 0, 1) := by decide +kernel
theorem dX11_townTold_33 : decode cX11_townTold 33 = .ok (.aload_n 0, 1) := by decide +kernel
theorem dX11_townTold_34 : decode cX11_townTold 34 = .ok (.iconst 0, 1) := by decide +kernel
theorem dX11_townTold_35 : decode cX11_townTold 35 = .ok (.bipush 60, 2) := by decide +kernel
theorem dX11_townTold_37 : decode cX11_townTold 37 = .ok (.invokevirtual 305, 3) := by decide +kernel
theorem dX11_townTold_40 : decode cX11_townTold 40 = .ok (.putfield 318, 3) := by decide +kernel
theorem dX11_townTold_43 : decode cX11_townTold 43 = .ok (.goto 116, 3) := by decide +kernel
theorem dX11_townTold_46 : decode cX11_townTold 46 = .ok (.aload_n 0, 1) := by decide +kernel
theorem dX11_townTold_47 : decode cX11_townTold 47 = .ok (.aload_n 0, 1) := by decide +kernel
theorem dX11_townTold_48 : decode cX11_townTold 48 = .ok (.getfield 21, 3) := by decide +kernel
theorem dX11_townTold_51 : decode cX11_townTold 51 = .ok (.invokevirtual 251, 3) := by decide +kernel
theorem dX11_townTold_54 : decode cX11_townTold 54 = .ok (.ifCond .eq 11, 3) := by decide +kernel
theorem dX11_townTold_57 : decode cX11_townTold 57 = .ok (.aload_n 0, 1) := by decide +kernel
theorem dX11_townTold_58 : decode cX11_townTold 58 = .ok (.iload_n 1, 1) := by decide +kernel
theorem dX11_townTold_59 : decode cX11_townTold 59 = .ok (.invokevirtual 321, 3) := by decide +kernel
theorem dX11_townTold_62 : decode cX11_townTold 62 = .ok (.goto 97, 3) := by decide +kernel
theorem dX11_townTold_65 : decode cX11_townTold 65 = .ok (.aload_n 0, 1) := by decide +kernel
theorem dX11_townTold_66 : decode cX11_townTold 66 = .ok (.aload_n 0, 1) := by decide +kernel
theorem dX11_townTold_67 : decode cX11_townTold 67 = .ok (.getfield 39, 3) := by decide +kernel
theorem dX11_townTold_70 : decode cX11_townTold 70 = .ok (.invokevirtual 251, 3) := by decide +kernel
theorem dX11_townTold_73 : decode cX11_townTold 73 = .ok (.ifCond .eq 11, 3) := by decide +kernel
theorem dX11_townTold_76 : decode cX11_townTold 76 = .ok (.aload_n 0, 1) := by decide +kernel
theorem dX11_townTold_77 : decode cX11_townTold 77 = .ok (.iload_n 1, 1) := by decide +kernel
theorem dX11_townTold_78 : decode cX11_townTold 78 = .ok (.invokevirtual 325, 3) := by decide +kernel
theorem dX11_townTold_81 : decode cX11_townTold 81 = .ok (.goto 78, 3) := by decide +kernel
theorem dX11_townTold_84 : decode cX11_townTold 84 = .ok (.aload_n 0, 1) := by decide +kernel
theorem dX11_townTold_85 : decode cX11_townTold 85 = .ok (.aload_n 0, 1) := by decide +kernel
theorem dX11_townTold_86 : decode cX11_townTold 86 = .ok (.getfield 63, 3) := by decide +kernel
theorem dX11_townTold_89 : decode cX11_townTold 89 = .ok (.invokevirtual 251, 3) := by decide +kernel
theorem dX11_townTold_92 : decode cX11_townTold 92 = .ok (.ifCond .eq 11, 3) := by decide +kernel
theorem dX11_townTold_95 : decode cX11_townTold 95 = .ok (.aload_n 0, 1) := by decide +kernel
theorem dX11_townTold_96 : decode cX11_townTold 96 = .ok (.iload_n 1, 1) := by decide +kernel
theorem dX11_townTold_97 : decode cX11_townTold 97 = .ok (.invokevirtual 328, 3) := by decide +kernel
theorem dX11_townTold_100 : decode cX11_townTold 100 = .ok (.goto 59, 3) := by decide +kernel
theorem dX11_townTold_103 : decode cX11_townTold 103 = .ok (.aload_n 0, 1) := by decide +kernel
theorem dX11_townTold_104 : decode cX11_townTold 104 = .ok (.aload_n 0, 1) := by decide +kernel
theorem dX11_townTold_105 : decode cX11_townTold 105 = .ok (.getfield 66, 3) := by decide +kernel
theorem dX11_townTold_108 : decode cX11_townTold 108 = .ok (.invokevirtual 251, 3) := by decide +kernel
theorem dX11_townTold_111 : decode cX11_townTold 111 = .ok (.ifCond .eq 10, 3) := by decide +kernel
theorem dX11_townTold_114 : decode cX11_townTold 114 = .ok (.aload_n 0, 1) := by decide +kernel
theorem dX11_townTold_115 : decode cX11_townTold 115 = .ok (.invokevirtual 331, 3) := by decide +kernel
theorem dX11_townTold_118 : decode cX11_townTold 118 = .ok (.goto 41, 3) := by decide +kernel
theorem dX11_townTold_121 : decode cX11_townTold 121 = .ok (.aload_n 0, 1) := by decide +kernel
theorem dX11_townTold_122 : decode cX11_townTold 122 = .ok (.aload_n 0, 1) := by decide +kernel
theorem dX11_townTold_123 : decode cX11_townTold 123 = .ok (.getfield 69, 3) := by decide +kernel
theorem dX11_townTold_126 : decode cX11_townTold 126 = .ok (.invokevirtual 251, 3) := by decide +kernel
theorem dX11_townTold_129 : decode cX11_townTold 129 = .ok (.ifCond .eq 10, 3) := by decide +kernel
theorem dX11_townTold_132 : decode cX11_townTold 132 = .ok (.aload_n 0, 1) := by decide +kernel
theorem dX11_townTold_133 : decode cX11_townTold 133 = .ok (.invokevirtual 334, 3) := by decide +kernel
theorem dX11_townTold_136 : decode cX11_townTold 136 = .ok (.goto 23, 3) := by decide +kernel
theorem dX11_townTold_139 : decode cX11_townTold 139 = .ok (.aload_n 0, 1) := by decide +kernel
theorem dX11_townTold_140 : decode cX11_townTold 140 = .ok (.aload_n 0, 1) := by decide +kernel
theorem dX11_townTold_141 : decode cX11_townTold 141 = .ok (.getfield 72, 3) := by decide +kernel
theorem dX11_townTold_144 : decode cX11_townTold 144 = .ok (.invokevirtual 301, 3) := by decide +kernel
theorem dX11_townTold_147 : decode cX11_townTold 147 = .ok (.aload_n 0, 1) := by decide +kernel
theorem dX11_townTold_148 : decode cX11_townTold 148 = .ok (.getfield 224, 3) := by decide +kernel
theorem dX11_townTold_151 : decode cX11_townTold 151 = .ok (.ifCond .ne 8, 3) := by decide +kernel
theorem dX11_townTold_154 : decode cX11_townTold 154 = .ok (.aload_n 0, 1) := by decide +kernel
theorem dX11_townTold_155 : decode cX11_townTold 155 = .ok (.iload_n 1, 1) := by decide +kernel
theorem dX11_townTold_156 : decode cX11_townTold 156 = .ok (.invokevirtual 337, 3) := by decide +kernel
theorem dX11_townTold_159 : decode cX11_townTold 159 = .ok (.aload_n 0, 1) := by decide +kernel
theorem dX11_townTold_160 : decode cX11_townTold 160 = .ok (.bipush 59, 2) := by decide +kernel
theorem dX11_townTold_162 : decode cX11_townTold 162 = .ok (.invokevirtual 340, 3) := by decide +kernel
theorem dX11_townTold_165 : decode cX11_townTold 165 = .ok (.aload_n 0, 1) := by decide +kernel
theorem dX11_townTold_166 : decode cX11_townTold 166 = .ok (.dup, 1) := by decide +kernel
theorem dX11_townTold_167 : decode cX11_townTold 167 = .ok (.getfield 279, 3) := by decide +kernel
theorem dX11_townTold_170 : decode cX11_townTold 170 = .ok (.iconst 1, 1) := by decide +kernel
theorem dX11_townTold_171 : decode cX11_townTold 171 = .ok (.iadd, 1) := by decide +kernel
theorem dX11_townTold_172 : decode cX11_townTold 172 = .ok (.putfield 279, 3) := by decide +kernel
theorem dX11_townTold_175 : decode cX11_townTold 175 = .ok (.return_, 1) := by decide +kernel
theorem dX11_town_0 : decode cX11_town 0 = .ok (.aload_n 0, 1) := by decide +kernel
theorem dX11_town_1 : decode cX11_town 1 = .ok (.invokevirtual 343, 3) := by decide +kernel
theorem dX11_town_4 : decode cX11_town 4 = .ok (.iconst 0, 1) := by decide +kernel
theorem dX11_town_5 : decode cX11_town 5 = .ok (.istore_n 1, 1) := by decide +kernel
theorem dX11_town_6 : decode cX11_town 6 = .ok (.iload_n 1, 1) := by decide +kernel
theorem dX11_town_7 : decode cX11_town 7 = .ok (.iconst 3, 1) := by decide +kernel
theorem dX11_town_8 : decode cX11_town 8 = .ok (.if_icmp .ge 16, 3) := by decide +kernel
theorem dX11_town_11 : decode cX11_town 11 = .ok (.aload_n 0, 1) := by decide +kernel
theorem dX11_town_12 : decode cX11_town 12 = .ok (.getfield 121, 3) := by decide +kernel
theorem dX11_town_15 : decode cX11_town 15 = .ok (.iload_n 1, 1) := by decide +kernel
theorem dX11_town_16 : decode cX11_town 16 = .ok (.iconst 0, 1) := by decide +kernel
theorem dX11_town_17 : decode cX11_town 17 = .ok (.iastore, 1) := by decide +kernel
theorem dX11_town_18 : decode cX11_town 18 = .ok (.iinc 1 1, 3) := by decide +kernel
theorem dX11_town_21 : decode cX11_town 21 = .ok (.goto (-15), 3) := by decide +kernel
theorem dX11_town_24 : decode cX11_town 24 = .ok (.aload_n 0, 1) := by decide +kernel
theorem dX11_town_25 : decode cX11_town 25 = .ok (.iconst 0, 1) := by decide +kernel
theorem dX11_town_26 : decode cX11_town 26 = .ok (.putfield 315, 3) := by decide +kernel
theorem dX11_town_29 : decode cX11_town 29 = .ok (.aload_n 0, 1) := by decide +kernel
theorem dX11_town_30 : decode cX11_town 30 = .ok (.getfield 151, 3) := by decide +kernel
theorem dX11_town_33 : decode cX11_town 33 = .ok (.iconst 1, 1) := by decide +kernel
theorem dX11_town_34 : decode cX11_town 34 = .ok (.iconst 0, 1) := by decide +kernel
theorem dX11_town_35 : decode cX11_town 35 = .ok (.iastore, 1) := by decide +kernel
theorem dX11_town_36 : decode cX11_town 36 = .ok (.aload_n 0, 1) := by decide +kernel
theorem dX11_town_37 : decode cX11_town 37 = .ok (.bipush 40, 2) := by decide +kernel
theorem dX11_town_39 : decode cX11_town 39 = .ok (.putfield 318, 3) := by decide +kernel
theorem dX11_town_42 : decode cX11_town 42 = .ok (.aload_n 0, 1) := by decide +kernel
theorem dX11_town_43 : decode cX11_town 43 = .ok (.getfield 224, 3) := by decide +kernel
theorem dX11_town_46 : decode cX11_town 46 = .ok (.ifCond .ne 18, 3) := by decide +kernel
theorem dX11_town_49 : decode cX11_town 49 = .ok (.aload_n 0, 1) := by decide +kernel
theorem dX11_town_50 : decode cX11_town 50 = .ok (.invokevirtual 236, 3) := by decide +kernel
theorem dX11_town_53 : decode cX11_town 53 = .ok (.iconst (-1), 1) := by decide +kernel
theorem dX11_town_54 : decode cX11_town 54 = .ok (.if_icmp .eq 10, 3) := by decide +kernel
theorem dX11_town_57 : decode cX11_town 57 = .ok (.aload_n 0, 1) := by decide +kernel
theorem dX11_town_58 : decode cX11_town 58 = .ok (.invokevirtual 346, 3) := by decide +kernel
theorem dX11_town_61 : decode cX11_town 61 = .ok (.goto (-19), 3) := by decide +kernel
theorem dX11_town_64 : decode cX11_town 64 = .ok (.aload_n 0, 1) := by decide +kernel
theorem dX11_town_65 : decode cX11_town 65 = .ok (.aload_n 0, 1) := by decide +kernel
theorem dX11_town_66 : decode cX11_town 66 = .ok (.getfield 224, 3) := by decide +kernel
theorem dX11_town_69 : decode cX11_town 69 = .ok (.putfield 349, 3) := by decide +kernel
theorem dX11_town_72 : decode cX11_town 72 = .ok (.aload_n 0, 1) := by decide +kernel
theorem dX11_town_73 : decode cX11_town 73 = .ok (.aload_n 0, 1) := by decide +kernel
theorem dX11_town_74 : decode cX11_town 74 = .ok (.getfield 227, 3) := by decide +kernel
theorem dX11_town_77 : decode cX11_town 77 = .ok (.putfield 13, 3) := by decide +kernel
theorem dX11_town_80 : decode cX11_town 80 = .ok (.aload_n 0, 1) := by decide +kernel
theorem dX11_town_81 : decode cX11_town 81 = .ok (.getfield 224, 3) := by decide +kernel
theorem dX11_town_84 : decode cX11_town 84 = .ok (.ifCond .eq 5, 3) := by decide +kernel
theorem dX11_town_87 : decode cX11_town 87 = .ok (.iconst (-1), 1) := by decide +kernel
theorem dX11_town_88 : decode cX11_town 88 = .ok (.ireturn, 1) := by decide +kernel
theorem dX11_town_89 : decode cX11_town 89 = .ok (.aload_n 0, 1) := by decide +kernel
theorem dX11_town_90 : decode cX11_town 90 = .ok (.invokevirtual 352, 3) := by decide +kernel
theorem dX11_town_93 : decode cX11_town 93 = .ok (.aload_n 0, 1) := by decide +kernel
theorem dX11_town_94 : decode cX11_town 94 = .ok (.getfield 279, 3) := by decide +kernel
theorem dX11_town_97 : decode cX11_town 97 = .ok (.ireturn, 1) := by decide +kernel
theorem dX11_stands_0 : decode cX11_stands 0 = .ok (.iconst 0, 1) := by decide +kernel
theorem dX11_stands_1 : decode cX11_stands 1 = .ok (.istore_n 1, 1) := by decide +kernel
theorem dX11_stands_2 : decode cX11_stands 2 = .ok (.iload_n 1, 1) := by decide +kernel
theorem dX11_stands_3 : decode cX11_stands 3 = .ok (.iconst 3, 1) := by decide +kernel
theorem dX11_stands_4 : decode cX11_stands 4 = .ok (.if_icmp .ge 23, 3) := by decide +kernel
theorem dX11_stands_7 : decode cX11_stands 7 = .ok (.aload_n 0, 1) := by decide +kernel
theorem dX11_stands_8 : decode cX11_stands 8 = .ok (.getfield 121, 3) := by decide +kernel
theorem dX11_stands_11 : decode cX11_stands 11 = .ok (.iconst 3, 1) := by decide +kernel
theorem dX11_stands_12 : decode cX11_stands 12 = .ok (.iload_n 1, 1) := by decide +kernel
theorem dX11_stands_13 : decode cX11_stands 13 = .ok (.iadd, 1) := by decide +kernel
theorem dX11_stands_14 : decode cX11_stands 14 = .ok (.aload_n 0, 1) := by decide +kernel
theorem dX11_stands_15 : decode cX11_stands 15 = .ok (.getfield 121, 3) := by decide +kernel
theorem dX11_stands_18 : decode cX11_stands 18 = .ok (.iload_n 1, 1) := by decide +kernel
theorem dX11_stands_19 : decode cX11_stands 19 = .ok (.iaload, 1) := by decide +kernel
theorem dX11_stands_20 : decode cX11_stands 20 = .ok (.iastore, 1) := by decide +kernel
theorem dX11_stands_21 : decode cX11_stands 21 = .ok (.iinc 1 1, 3) := by decide +kernel
theorem dX11_stands_24 : decode cX11_stands 24 = .ok (.goto (-22), 3) := by decide +kernel
theorem dX11_stands_27 : decode cX11_stands 27 = .ok (.iconst 0, 1) := by decide +kernel
theorem dX11_stands_28 : decode cX11_stands 28 = .ok (.istore_n 1, 1) := by decide +kernel
theorem dX11_stands_29 : decode cX11_stands 29 = .ok (.iload_n 1, 1) := by decide +kernel
theorem dX11_stands_30 : decode cX11_stands 30 = .ok (.bipush 36, 2) := by decide +kernel
theorem dX11_stands_32 : decode cX11_stands 32 = .ok (.if_icmp .ge 24, 3) := by decide +kernel
theorem dX11_stands_35 : decode cX11_stands 35 = .ok (.aload_n 0, 1) := by decide +kernel
theorem dX11_stands_36 : decode cX11_stands 36 = .ok (.getfield 117, 3) := by decide +kernel
theorem dX11_stands_39 : decode cX11_stands 39 = .ok (.bipush 36, 2) := by decide +kernel
theorem dX11_stands_41 : decode cX11_stands 41 = .ok (.iload_n 1, 1) := by decide +kernel
theorem dX11_stands_42 : decode cX11_stands 42 = .ok (.iadd, 1) := by decide +kernel
theorem dX11_stands_43 : decode cX11_stands 43 = .ok (.aload_n 0, 1) := by decide +kernel
theorem dX11_stands_44 : decode cX11_stands 44 = .ok (.getfield 117, 3) := by decide +kernel
theorem dX11_stands_47 : decode cX11_stands 47 = .ok (.iload_n 1, 1) := by decide +kernel
theorem dX11_stands_48 : decode cX11_stands 48 = .ok (.laload, 1) := by decide +kernel
theorem dX11_stands_49 : decode cX11_stands 49 = .ok (.lastore, 1) := by decide +kernel
theorem dX11_stands_50 : decode cX11_stands 50 = .ok (.iinc 1 1, 3) := by decide +kernel
theorem dX11_stands_53 : decode cX11_stands 53 = .ok (.goto (-24), 3) := by decide +kernel
theorem dX11_stands_56 : decode cX11_stands 56 = .ok (.iconst 0, 1) := by decide +kernel
theorem dX11_stands_57 : decode cX11_stands 57 = .ok (.istore_n 1, 1) := by decide +kernel
theorem dX11_stands_58 : decode cX11_stands 58 = .ok (.iload_n 1, 1) := by decide +kernel
theorem dX11_stands_59 : decode cX11_stands 59 = .ok (.bipush 30, 2) := by decide +kernel
theorem dX11_stands_61 : decode cX11_stands 61 = .ok (.if_icmp .ge 24, 3) := by decide +kernel
theorem dX11_stands_64 : decode cX11_stands 64 = .ok (.aload_n 0, 1) := by decide +kernel
theorem dX11_stands_65 : decode cX11_stands 65 = .ok (.getfield 124, 3) := by decide +kernel
theorem dX11_stands_68 : decode cX11_stands 68 = .ok (.bipush 30, 2) := by decide +kernel
theorem dX11_stands_70 : decode cX11_stands 70 = .ok (.iload_n 1, 1) := by decide +kernel
theorem dX11_stands_71 : decode cX11_stands 71 = .ok (.iadd, 1) := by decide +kernel
theorem dX11_stands_72 : decode cX11_stands 72 = .ok (.aload_n 0, 1) := by decide +kernel
theorem dX11_stands_73 : decode cX11_stands 73 = .ok (.getfield 124, 3) := by decide +kernel
theorem dX11_stands_76 : decode cX11_stands 76 = .ok (.iload_n 1, 1) := by decide +kernel
theorem dX11_stands_77 : decode cX11_stands 77 = .ok (.iaload, 1) := by decide +kernel
theorem dX11_stands_78 : decode cX11_stands 78 = .ok (.iastore, 1) := by decide +kernel
theorem dX11_stands_79 : decode cX11_stands 79 = .ok (.iinc 1 1, 3) := by decide +kernel
theorem dX11_stands_82 : decode cX11_stands 82 = .ok (.goto (-24), 3) := by decide +kernel
theorem dX11_stands_85 : decode cX11_stands 85 = .ok (.iconst 0, 1) := by decide +kernel
theorem dX11_stands_86 : decode cX11_stands 86 = .ok (.istore_n 1, 1) := by decide +kernel
theorem dX11_stands_87 : decode cX11_stands 87 = .ok (.iload_n 1, 1) := by decide +kernel
theorem dX11_stands_88 : decode cX11_stands 88 = .ok (.bipush 16, 2) := by decide +kernel
theorem dX11_stands_90 : decode cX11_stands 90 = .ok (.if_icmp .ge 24, 3) := by decide +kernel
theorem dX11_stands_93 : decode cX11_stands 93 = .ok (.aload_n 0, 1) := by decide +kernel
theorem dX11_stands_94 : decode cX11_stands 94 = .ok (.getfield 127, 3) := by decide +kernel
theorem dX11_stands_97 : decode cX11_stands 97 = .ok (.bipush 16, 2) := by decide +kernel
theorem dX11_stands_99 : decode cX11_stands 99 = .ok (.iload_n 1, 1) := by decide +kernel
theorem dX11_stands_100 : decode cX11_stands 100 = .ok (.iadd, 1) := by decide +kernel
theorem dX11_stands_101 : decode cX11_stands 101 = .ok (.aload_n 0, 1) := by decide +kernel
theorem dX11_stands_102 : decode cX11_stands 102 = .ok (.getfield 127, 3) := by decide +kernel
theorem dX11_stands_105 : decode cX11_stands 105 = .ok (.iload_n 1, 1) := by decide +kernel
theorem dX11_stands_106 : decode cX11_stands 106 = .ok (.iaload, 1) := by decide +kernel
theorem dX11_stands_107 : decode cX11_stands 107 = .ok (.iastore, 1) := by decide +kernel
theorem dX11_stands_108 : decode cX11_stands 108 = .ok (.iinc 1 1, 3) := by decide +kernel
theorem dX11_stands_111 : decode cX11_stands 111 = .ok (.goto (-24), 3) := by decide +kernel
theorem dX11_stands_114 : decode cX11_stands 114 = .ok (.iconst 0, 1) := by decide +kernel
theorem dX11_stands_115 : decode cX11_stands 115 = .ok (.istore_n 1, 1) := by decide +kernel
theorem dX11_stands_116 : decode cX11_stands 116 = .ok (.iload_n 1, 1) := by decide +kernel
theorem dX11_stands_117 : decode cX11_stands 117 = .ok (.aload_n 0, 1) := by decide +kernel
theorem dX11_stands_118 : decode cX11_stands 118 = .ok (.getfield 121, 3) := by decide +kernel
theorem dX11_stands_121 : decode cX11_stands 121 = .ok (.iconst 2, 1) := by decide +kernel
theorem dX11_stands_122 : decode cX11_stands 122 = .ok (.iaload, 1) := by decide +kernel
theorem dX11_stands_123 : decode cX11_stands 123 = .ok (.if_icmp .ge 80, 3) := by decide +kernel
theorem dX11_stands_126 : decode cX11_stands 126 = .ok (.aload_n 0, 1) := by decide +kernel
theorem dX11_stands_127 : decode cX11_stands 127 = .ok (.getfield 166, 3) := by decide +kernel
theorem dX11_stands_130 : decode cX11_stands 130 = .ok (.iload_n 1, 1) := by decide +kernel
theorem dX11_stands_131 : decode cX11_stands 131 = .ok (.aload_n 0, 1) := by decide +kernel
theorem dX11_stands_132 : decode cX11_stands 132 = .ok (.getfield 130, 3) := by decide +kernel
theorem dX11_stands_135 : decode cX11_stands 135 = .ok (.iload_n 1, 1) := by decide +kernel
theorem dX11_stands_136 : decode cX11_stands 136 = .ok (.iaload, 1) := by decide +kernel
theorem dX11_stands_137 : decode cX11_stands 137 = .ok (.iastore, 1) := by decide +kernel
theorem dX11_stands_138 : decode cX11_stands 138 = .ok (.aload_n 0, 1) := by decide +kernel
theorem dX11_stands_139 : decode cX11_stands 139 = .ok (.getfield 169, 3) := by decide +kernel
theorem dX11_stands_142 : decode cX11_stands 142 = .ok (.iload_n 1, 1) := by decide +kernel
theorem dX11_stands_143 : decode cX11_stands 143 = .ok (.aload_n 0, 1) := by decide +kernel
theorem dX11_stands_144 : decode cX11_stands 144 = .ok (.getfield 133, 3) := by decide +kernel
theorem dX11_stands_147 : decode cX11_stands 147 = .ok (.iload_n 1, 1) := by decide +kernel
theorem dX11_stands_148 : decode cX11_stands 148 = .ok (.iaload, 1) := by decide +kernel
theorem dX11_stands_149 : decode cX11_stands 149 = .ok (.iastore, 1) := by decide +kernel
theorem dX11_stands_150 : decode cX11_stands 150 = .ok (.aload_n 0, 1) := by decide +kernel
theorem dX11_stands_151 : decode cX11_stands 151 = .ok (.getfield 172, 3) := by decide +kernel
theorem dX11_stands_154 : decode cX11_stands 154 = .ok (.iload_n 1, 1) := by decide +kernel
theorem dX11_stands_155 : decode cX11_stands 155 = .ok (.aload_n 0, 1) := by decide +kernel
theorem dX11_stands_156 : decode cX11_stands 156 = .ok (.getfield 136, 3) := by decide +kernel
theorem dX11_stands_159 : decode cX11_stands 159 = .ok (.iload_n 1, 1) := by decide +kernel
theorem dX11_stands_160 : decode cX11_stands 160 = .ok (.iaload, 1) := by decide +kernel
theorem dX11_stands_161 : decode cX11_stands 161 = .ok (.iastore, 1) := by decide +kernel
theorem dX11_stands_162 : decode cX11_stands 162 = .ok (.aload_n 0, 1) := by decide +kernel
theorem dX11_stands_163 : decode cX11_stands 163 = .ok (.getfield 175, 3) := by decide +kernel
theorem dX11_stands_166 : decode cX11_stands 166 = .ok (.iload_n 1, 1) := by decide +kernel
theorem dX11_stands_167 : decode cX11_stands 167 = .ok (.iconst 0, 1) := by decide +kernel
theorem dX11_stands_168 : decode cX11_stands 168 = .ok (.iastore, 1) := by decide +kernel
theorem dX11_stands_169 : decode cX11_stands 169 = .ok (.aload_n 0, 1) := by decide +kernel
theorem dX11_stands_170 : decode cX11_stands 170 = .ok (.getfield 178, 3) := by decide +kernel
theorem dX11_stands_173 : decode cX11_stands 173 = .ok (.iload_n 1, 1) := by decide +kernel
theorem dX11_stands_174 : decode cX11_stands 174 = .ok (.iconst 0, 1) := by decide +kernel
theorem dX11_stands_175 : decode cX11_stands 175 = .ok (.iastore, 1) := by decide +kernel
theorem dX11_stands_176 : decode cX11_stands 176 = .ok (.aload_n 0, 1) := by decide +kernel
theorem dX11_stands_177 : decode cX11_stands 177 = .ok (.getfield 181, 3) := by decide +kernel
theorem dX11_stands_180 : decode cX11_stands 180 = .ok (.iload_n 1, 1) := by decide +kernel
theorem dX11_stands_181 : decode cX11_stands 181 = .ok (.iconst 0, 1) := by decide +kernel
theorem dX11_stands_182 : decode cX11_stands 182 = .ok (.iastore, 1) := by decide +kernel
theorem dX11_stands_183 : decode cX11_stands 183 = .ok (.aload_n 0, 1) := by decide +kernel
theorem dX11_stands_184 : decode cX11_stands 184 = .ok (.getfield 184, 3) := by decide +kernel
theorem dX11_stands_187 : decode cX11_stands 187 = .ok (.iload_n 1, 1) := by decide +kernel
theorem dX11_stands_188 : decode cX11_stands 188 = .ok (.iconst (-1), 1) := by decide +kernel
theorem dX11_stands_189 : decode cX11_stands 189 = .ok (.iastore, 1) := by decide +kernel
theorem dX11_stands_190 : decode cX11_stands 190 = .ok (.aload_n 0, 1) := by decide +kernel
theorem dX11_stands_191 : decode cX11_stands 191 = .ok (.getfield 187, 3) := by decide +kernel
theorem dX11_stands_194 : decode cX11_stands 194 = .ok (.iload_n 1, 1) := by decide +kernel
theorem dX11_stands_195 : decode cX11_stands 195 = .ok (.iconst (-1), 1) := by decide +kernel
theorem dX11_stands_196 : decode cX11_stands 196 = .ok (.iastore, 1) := by decide +kernel
theorem dX11_stands_197 : decode cX11_stands 197 = .ok (.iinc 1 1, 3) := by decide +kernel
theorem dX11_stands_200 : decode cX11_stands 200 = .ok (.goto (-84), 3) := by decide +kernel
theorem dX11_stands_203 : decode cX11_stands 203 = .ok (.aload_n 0, 1) := by decide +kernel
theorem dX11_stands_204 : decode cX11_stands 204 = .ok (.aload_n 0, 1) := by decide +kernel
theorem dX11_stands_205 : decode cX11_stands 205 = .ok (.getfield 315, 3) := by decide +kernel
theorem dX11_stands_208 : decode cX11_stands 208 = .ok (.putfield 355, 3) := by decide +kernel
theorem dX11_stands_211 : decode cX11_stands 211 = .ok (.iconst 0, 1) := by decide +kernel
theorem dX11_stands_212 : decode cX11_stands 212 = .ok (.istore_n 1, 1) := by decide +kernel
theorem dX11_stands_213 : decode cX11_stands 213 = .ok (.iload_n 1, 1) := by decide +kernel
theorem dX11_stands_214 : decode cX11_stands 214 = .ok (.aload_n 0, 1) := by decide +kernel
theorem dX11_stands_215 : decode cX11_stands 215 = .ok (.getfield 355, 3) := by decide +kernel
theorem dX11_stands_218 : decode cX11_stands 218 = .ok (.if_icmp .ge 21, 3) := by decide +kernel
theorem dX11_stands_221 : decode cX11_stands 221 = .ok (.aload_n 0, 1) := by decide +kernel
theorem dX11_stands_222 : decode cX11_stands 222 = .ok (.getfield 190, 3) := by decide +kernel
theorem dX11_stands_225 : decode cX11_stands 225 = .ok (.iload_n 1, 1) := by decide +kernel
theorem dX11_stands_226 : decode cX11_stands 226 = .ok (.aload_n 0, 1) := by decide +kernel
theorem dX11_stands_227 : decode cX11_stands 227 = .ok (.getfield 139, 3) := by decide +kernel
theorem dX11_stands_230 : decode cX11_stands 230 = .ok (.iload_n 1, 1) := by decide +kernel
theorem dX11_stands_231 : decode cX11_stands 231 = .ok (.iaload, 1) := by decide +kernel
theorem dX11_stands_232 : decode cX11_stands 232 = .ok (.iastore, 1) := by decide +kernel
theorem dX11_stands_233 : decode cX11_stands 233 = .ok (.iinc 1 1, 3) := by decide +kernel
theorem dX11_stands_236 : decode cX11_stands 236 = .ok (.goto (-23), 3) := by decide +kernel
theorem dX11_stands_239 : decode cX11_stands 239 = .ok (.aload_n 0, 1) := by decide +kernel
theorem dX11_stands_240 : decode cX11_stands 240 = .ok (.aload_n 0, 1) := by decide +kernel
theorem dX11_stands_241 : decode cX11_stands 241 = .ok (.getfield 318, 3) := by decide +kernel
theorem dX11_stands_244 : decode cX11_stands 244 = .ok (.putfield 142, 3) := by decide +kernel
theorem dX11_stands_247 : decode cX11_stands 247 = .ok (.aload_n 0, 1) := by decide +kernel
theorem dX11_stands_248 : decode cX11_stands 248 = .ok (.getfield 151, 3) := by decide +kernel
theorem dX11_stands_251 : decode cX11_stands 251 = .ok (.iconst 0, 1) := by decide +kernel
theorem dX11_stands_252 : decode cX11_stands 252 = .ok (.aload_n 0, 1) := by decide +kernel
theorem dX11_stands_253 : decode cX11_stands 253 = .ok (.getfield 151, 3) := by decide +kernel
theorem dX11_stands_256 : decode cX11_stands 256 = .ok (.iconst 1, 1) := by decide +kernel
theorem dX11_stands_257 : decode cX11_stands 257 = .ok (.iaload, 1) := by decide +kernel
theorem dX11_stands_258 : decode cX11_stands 258 = .ok (.iastore, 1) := by decide +kernel
theorem dX11_stands_259 : decode cX11_stands 259 = .ok (.iconst 0, 1) := by decide +kernel
theorem dX11_stands_260 : decode cX11_stands 260 = .ok (.istore_n 1, 1) := by decide +kernel
theorem dX11_stands_261 : decode cX11_stands 261 = .ok (.iload_n 1, 1) := by decide +kernel
theorem dX11_stands_262 : decode cX11_stands 262 = .ok (.aload_n 0, 1) := by decide +kernel
theorem dX11_stands_263 : decode cX11_stands 263 = .ok (.getfield 151, 3) := by decide +kernel
theorem dX11_stands_266 : decode cX11_stands 266 = .ok (.iconst 0, 1) := by decide +kernel
theorem dX11_stands_267 : decode cX11_stands 267 = .ok (.iaload, 1) := by decide +kernel
theorem dX11_stands_268 : decode cX11_stands 268 = .ok (.if_icmp .ge 69, 3) := by decide +kernel
theorem dX11_stands_271 : decode cX11_stands 271 = .ok (.aload_n 0, 1) := by decide +kernel
theorem dX11_stands_272 : decode cX11_stands 272 = .ok (.getfield 154, 3) := by decide +kernel
theorem dX11_stands_275 : decode cX11_stands 275 = .ok (.iload_n 1, 1) := by decide +kernel
theorem dX11_stands_276 : decode cX11_stands 276 = .ok (.aload_n 0, 1) := by decide +kernel
theorem dX11_stands_277 : decode cX11_stands 277 = .ok (.getfield 154, 3) := by decide +kernel
theorem dX11_stands_280 : decode cX11_stands 280 = .ok (.bipush 12, 2) := by decide +kernel
theorem dX11_stands_282 : decode cX11_stands 282 = .ok (.iload_n 1, 1) := by decide +kernel
theorem dX11_stands_283 : decode cX11_stands 283 = .ok (.iadd, 1) := by decide +kernel
theorem dX11_stands_284 : decode cX11_stands 284 = .ok (.iaload, 1) := by decide +kernel
theorem dX11_stands_285 : decode cX11_stands 285 = .ok (.iastore, 1) := by decide +kernel
theorem dX11_stands_286 : decode cX11_stands 286 = .ok (.aload_n 0, 1) := by decide +kernel
theorem dX11_stands_287 : decode cX11_stands 287 = .ok (.getfield 157, 3) := by decide +kernel
theorem dX11_stands_290 : decode cX11_stands 290 = .ok (.iload_n 1, 1) := by decide +kernel
theorem dX11_stands_291 : decode cX11_stands 291 = .ok (.aload_n 0, 1) := by decide +kernel
theorem dX11_stands_292 : decode cX11_stands 292 = .ok (.getfield 157, 3) := by decide +kernel
theorem dX11_stands_295 : decode cX11_stands 295 = .ok (.bipush 12, 2) := by decide +kernel
theorem dX11_stands_297 : decode cX11_stands 297 = .ok (.iload_n 1, 1) := by decide +kernel
theorem dX11_stands_298 : decode cX11_stands 298 = .ok (.iadd, 1) := by decide +kernel
theorem dX11_stands_299 : decode cX11_stands 299 = .ok (.iaload, 1) := by decide +kernel
theorem dX11_stands_300 : decode cX11_stands 300 = .ok (.iastore, 1) := by decide +kernel
theorem dX11_stands_301 : decode cX11_stands 301 = .ok (.aload_n 0, 1) := by decide +kernel
theorem dX11_stands_302 : decode cX11_stands 302 = .ok (.getfield 160, 3) := by decide +kernel
theorem dX11_stands_305 : decode cX11_stands 305 = .ok (.iload_n 1, 1) := by decide +kernel
theorem dX11_stands_306 : decode cX11_stands 306 = .ok (.aload_n 0, 1) := by decide +kernel
theorem dX11_stands_307 : decode cX11_stands 307 = .ok (.getfield 160, 3) := by decide +kernel
theorem dX11_stands_310 : decode cX11_stands 310 = .ok (.bipush 12, 2) := by decide +kernel
theorem dX11_stands_312 : decode cX11_stands 312 = .ok (.iload_n 1, 1) := by decide +kernel
theorem dX11_stands_313 : decode cX11_stands 313 = .ok (.iadd, 1) := by decide +kernel
theorem dX11_stands_314 : decode cX11_stands 314 = .ok (.iaload, 1) := by decide +kernel
theorem dX11_stands_315 : decode cX11_stands 315 = .ok (.iastore, 1) := by decide +kernel
theorem dX11_stands_316 : decode cX11_stands 316 = .ok (.aload_n 0, 1) := by decide +kernel
theorem dX11_stands_317 : decode cX11_stands 317 = .ok (.getfield 163, 3) := by decide +kernel
theorem dX11_stands_320 : decode cX11_stands 320 = .ok (.iload_n 1, 1) := by decide +kernel
theorem dX11_stands_321 : decode cX11_stands 321 = .ok (.aload_n 0, 1) := by decide +kernel
theorem dX11_stands_322 : decode cX11_stands 322 = .ok (.getfield 163, 3) := by decide +kernel
theorem dX11_stands_325 : decode cX11_stands 325 = .ok (.bipush 12, 2) := by decide +kernel
theorem dX11_stands_327 : decode cX11_stands 327 = .ok (.iload_n 1, 1) := by decide +kernel
theorem dX11_stands_328 : decode cX11_stands 328 = .ok (.iadd, 1) := by decide +kernel
theorem dX11_stands_329 : decode cX11_stands 329 = .ok (.iaload, 1) := by decide +kernel
theorem dX11_stands_330 : decode cX11_stands 330 = .ok (.iastore, 1) := by decide +kernel
theorem dX11_stands_331 : decode cX11_stands 331 = .ok (.iinc 1 1, 3) := by decide +kernel
theorem dX11_stands_334 : decode cX11_stands 334 = .ok (.goto (-73), 3) := by decide +kernel
theorem dX11_stands_337 : decode cX11_stands 337 = .ok (.iconst 0, 1) := by decide +kernel
theorem dX11_stands_338 : decode cX11_stands 338 = .ok (.istore_n 1, 1) := by decide +kernel
theorem dX11_stands_339 : decode cX11_stands 339 = .ok (.iload_n 1, 1) := by decide +kernel
theorem dX11_stands_340 : decode cX11_stands 340 = .ok (.aload_n 0, 1) := by decide +kernel
theorem dX11_stands_341 : decode cX11_stands 341 = .ok (.getfield 282, 3) := by decide +kernel
theorem dX11_stands_344 : decode cX11_stands 344 = .ok (.if_icmp .ge 25, 3) := by decide +kernel
theorem dX11_stands_347 : decode cX11_stands 347 = .ok (.aload_n 0, 1) := by decide +kernel
theorem dX11_stands_348 : decode cX11_stands 348 = .ok (.getfield 145, 3) := by decide +kernel
theorem dX11_stands_351 : decode cX11_stands 351 = .ok (.iload_n 1, 1) := by decide +kernel
theorem dX11_stands_352 : decode cX11_stands 352 = .ok (.aload_n 0, 1) := by decide +kernel
theorem dX11_stands_353 : decode cX11_stands 353 = .ok (.getfield 145, 3) := by decide +kernel
theorem dX11_stands_356 : decode cX11_stands 356 = .ok (.sipush 1600, 3) := by decide +kernel
theorem dX11_stands_359 : decode cX11_stands 359 = .ok (.iload_n 1, 1) := by decide +kernel
theorem dX11_stands_360 : decode cX11_stands 360 = .ok (.iadd, 1) := by decide +kernel
theorem dX11_stands_361 : decode cX11_stands 361 = .ok (.iaload, 1) := by decide +kernel
theorem dX11_stands_362 : decode cX11_stands 362 = .ok (.iastore, 1) := by decide +kernel
theorem dX11_stands_363 : decode cX11_stands 363 = .ok (.iinc 1 1, 3) := by decide +kernel
theorem dX11_stands_366 : decode cX11_stands 366 = .ok (.goto (-27), 3) := by decide +kernel
theorem dX11_stands_369 : decode cX11_stands 369 = .ok (.aload_n 0, 1) := by decide +kernel
theorem dX11_stands_370 : decode cX11_stands 370 = .ok (.iconst 0, 1) := by decide +kernel
theorem dX11_stands_371 : decode cX11_stands 371 = .ok (.putfield 358, 3) := by decide +kernel
theorem dX11_stands_374 : decode cX11_stands 374 = .ok (.aload_n 0, 1) := by decide +kernel
theorem dX11_stands_375 : decode cX11_stands 375 = .ok (.iconst 0, 1) := by decide +kernel
theorem dX11_stands_376 : decode cX11_stands 376 = .ok (.putfield 361, 3) := by decide +kernel
theorem dX11_stands_379 : decode cX11_stands 379 = .ok (.aload_n 0, 1) := by decide +kernel
theorem dX11_stands_380 : decode cX11_stands 380 = .ok (.iconst 0, 1) := by decide +kernel
theorem dX11_stands_381 : decode cX11_stands 381 = .ok (.putfield 364, 3) := by decide +kernel
theorem dX11_stands_384 : decode cX11_stands 384 = .ok (.aload_n 0, 1) := by decide +kernel
theorem dX11_stands_385 : decode cX11_stands 385 = .ok (.aload_n 0, 1) := by decide +kernel
theorem dX11_stands_386 : decode cX11_stands 386 = .ok (.getfield 121, 3) := by decide +kernel
theorem dX11_stands_389 : decode cX11_stands 389 = .ok (.iconst 5, 1) := by decide +kernel
theorem dX11_stands_390 : decode cX11_stands 390 = .ok (.iaload, 1) := by decide +kernel
theorem dX11_stands_391 : decode cX11_stands 391 = .ok (.putfield 367, 3) := by decide +kernel
theorem dX11_stands_394 : decode cX11_stands 394 = .ok (.return_, 1) := by decide +kernel
theorem dX11_code_0 : decode cX11_code 0 = .ok (.aload_n 0, 1) := by decide +kernel
theorem dX11_code_1 : decode cX11_code 1 = .ok (.getfield 145, 3) := by decide +kernel
theorem dX11_code_4 : decode cX11_code 4 = .ok (.sipush 1600, 3) := by decide +kernel
theorem dX11_code_7 : decode cX11_code 7 = .ok (.aload_n 0, 1) := by decide +kernel
theorem dX11_code_8 : decode cX11_code 8 = .ok (.getfield 282, 3) := by decide +kernel
theorem dX11_code_11 : decode cX11_code 11 = .ok (.iadd, 1) := by decide +kernel
theorem dX11_code_12 : decode cX11_code 12 = .ok (.iload_n 1, 1) := by decide +kernel
theorem dX11_code_13 : decode cX11_code 13 = .ok (.iastore, 1) := by decide +kernel
theorem dX11_code_14 : decode cX11_code 14 = .ok (.aload_n 0, 1) := by decide +kernel
theorem dX11_code_15 : decode cX11_code 15 = .ok (.dup, 1) := by decide +kernel
theorem dX11_code_16 : decode cX11_code 16 = .ok (.getfield 282, 3) := by decide +kernel
theorem dX11_code_19 : decode cX11_code 19 = .ok (.iconst 1, 1) := by decide +kernel
theorem dX11_code_20 : decode cX11_code 20 = .ok (.iadd, 1) := by decide +kernel
theorem dX11_code_21 : decode cX11_code 21 = .ok (.putfield 282, 3) := by decide +kernel
theorem dX11_code_24 : decode cX11_code 24 = .ok (.return_, 1) := by decide +kernel
theorem dX11_opens_0 : decode cX11_opens 0 = .ok (.aload_n 0, 1) := by decide +kernel
theorem dX11_opens_1 : decode cX11_opens 1 = .ok (.getfield 370, 3) := by decide +kernel
theorem dX11_opens_4 : decode cX11_opens 4 = .ok (.bipush 6, 2) := by decide +kernel
theorem dX11_opens_6 : decode cX11_opens 6 = .ok (.if_icmp .ne 10, 3) := by decide +kernel
theorem dX11_opens_9 : decode cX11_opens 9 = .ok (.aload_n 0, 1) := by decide +kernel
theorem dX11_opens_10 : decode cX11_opens 10 = .ok (.iconst 4, 1) := by decide +kernel
theorem dX11_opens_11 : decode cX11_opens 11 = .ok (.iload_n 2, 1) := by decide +kernel
theorem dX11_opens_12 : decode cX11_opens 12 = .ok (.invokevirtual 254, 3) := by decide +kernel
theorem dX11_opens_15 : decode cX11_opens 15 = .ok (.return_, 1) := by decide +kernel
theorem dX11_opens_16 : decode cX11_opens 16 = .ok (.aload_n 0, 1) := by decide +kernel
theorem dX11_opens_17 : decode cX11_opens 17 = .ok (.dup, 1) := by decide +kernel
theorem dX11_opens_18 : decode cX11_opens 18 = .ok (.getfield 370, 3) := by decide +kernel
theorem dX11_opens_21 : decode cX11_opens 21 = .ok (.iconst 1, 1) := by decide +kernel
theorem dX11_opens_22 : decode cX11_opens 22 = .ok (.iadd, 1) := by decide +kernel
theorem dX11_opens_23 : decode cX11_opens 23 = .ok (.putfield 370, 3) := by decide +kernel
theorem dX11_opens_26 : decode cX11_opens 26 = .ok (.aload_n 0, 1) := by decide +kernel
theorem dX11_opens_27 : decode cX11_opens 27 = .ok (.getfield 148, 3) := by decide +kernel
theorem dX11_opens_30 : decode cX11_opens 30 = .ok (.aload_n 0, 1) := by decide +kernel
theorem dX11_opens_31 : decode cX11_opens 31 = .ok (.getfield 373, 3) := by decide +kernel
theorem dX11_opens_34 : decode cX11_opens 34 = .ok (.iload_n 1, 1) := by decide +kernel
theorem dX11_opens_35 : decode cX11_opens 35 = .ok (.iastore, 1) := by decide +kernel
theorem dX11_opens_36 : decode cX11_opens 36 = .ok (.aload_n 0, 1) := by decide +kernel
theorem dX11_opens_37 : decode cX11_opens 37 = .ok (.dup, 1) := by decide +kernel
theorem dX11_opens_38 : decode cX11_opens 38 = .ok (.getfield 373, 3) := by decide +kernel
theorem dX11_opens_41 : decode cX11_opens 41 = .ok (.iconst 1, 1) := by decide +kernel
theorem dX11_opens_42 : decode cX11_opens 42 = .ok (.iadd, 1) := by decide +kernel
theorem dX11_opens_43 : decode cX11_opens 43 = .ok (.putfield 373, 3) := by decide +kernel
theorem dX11_opens_46 : decode cX11_opens 46 = .ok (.return_, 1) := by decide +kernel
theorem dX11_isOn_0 : decode cX11_isOn 0 = .ok (.aload_n 0, 1) := by decide +kernel
theorem dX11_isOn_1 : decode cX11_isOn 1 = .ok (.getfield 373, 3) := by decide +kernel
theorem dX11_isOn_4 : decode cX11_isOn 4 = .ok (.ifCond .le 22, 3) := by decide +kernel
theorem dX11_isOn_7 : decode cX11_isOn 7 = .ok (.aload_n 0, 1) := by decide +kernel
theorem dX11_isOn_8 : decode cX11_isOn 8 = .ok (.getfield 148, 3) := by decide +kernel
theorem dX11_isOn_11 : decode cX11_isOn 11 = .ok (.aload_n 0, 1) := by decide +kernel
theorem dX11_isOn_12 : decode cX11_isOn 12 = .ok (.getfield 373, 3) := by decide +kernel
theorem dX11_isOn_15 : decode cX11_isOn 15 = .ok (.iconst 1, 1) := by decide +kernel
theorem dX11_isOn_16 : decode cX11_isOn 16 = .ok (.isub, 1) := by decide +kernel
theorem dX11_isOn_17 : decode cX11_isOn 17 = .ok (.iaload, 1) := by decide +kernel
theorem dX11_isOn_18 : decode cX11_isOn 18 = .ok (.iload_n 1, 1) := by decide +kernel
theorem dX11_isOn_19 : decode cX11_isOn 19 = .ok (.if_icmp .ne 7, 3) := by decide +kernel
theorem dX11_isOn_22 : decode cX11_isOn 22 = .ok (.iconst 1, 1) := by decide +kernel
theorem dX11_isOn_23 : decode cX11_isOn 23 = .ok (.goto 4, 3) := by decide +kernel
theorem dX11_isOn_26 : decode cX11_isOn 26 = .ok (.iconst 0, 1) := by decide +kernel
theorem dX11_isOn_27 : decode cX11_isOn 27 = .ok (.ireturn, 1) := by decide +kernel
theorem dX11_drops_0 : decode cX11_drops 0 = .ok (.aload_n 0, 1) := by decide +kernel
theorem dX11_drops_1 : decode cX11_drops 1 = .ok (.dup, 1) := by decide +kernel
theorem dX11_drops_2 : decode cX11_drops 2 = .ok (.getfield 373, 3) := by decide +kernel
theorem dX11_drops_5 : decode cX11_drops 5 = .ok (.iconst 1, 1) := by decide +kernel
theorem dX11_drops_6 : decode cX11_drops 6 = .ok (.isub, 1) := by decide +kernel
theorem dX11_drops_7 : decode cX11_drops 7 = .ok (.putfield 373, 3) := by decide +kernel
theorem dX11_drops_10 : decode cX11_drops 10 = .ok (.aload_n 0, 1) := by decide +kernel
theorem dX11_drops_11 : decode cX11_drops 11 = .ok (.aload_n 0, 1) := by decide +kernel
theorem dX11_drops_12 : decode cX11_drops 12 = .ok (.getfield 148, 3) := by decide +kernel
theorem dX11_drops_15 : decode cX11_drops 15 = .ok (.aload_n 0, 1) := by decide +kernel
theorem dX11_drops_16 : decode cX11_drops 16 = .ok (.getfield 373, 3) := by decide +kernel
theorem dX11_drops_19 : decode cX11_drops 19 = .ok (.iaload, 1) := by decide +kernel
theorem dX11_drops_20 : decode cX11_drops 20 = .ok (.invokevirtual 376, 3) := by decide +kernel
theorem dX11_drops_23 : decode cX11_drops 23 = .ok (.return_, 1) := by decide +kernel
theorem dX11_isMark_0 : decode cX11_isMark 0 = .ok (.iload_n 1, 1) := by decide +kernel
theorem dX11_isMark_1 : decode cX11_isMark 1 = .ok (.bipush 20, 2) := by decide +kernel
theorem dX11_isMark_3 : decode cX11_isMark 3 = .ok (.if_icmp .lt 13, 3) := by decide +kernel
theorem dX11_isMark_6 : decode cX11_isMark 6 = .ok (.iload_n 1, 1) := by decide +kernel
theorem dX11_isMark_7 : decode cX11_isMark 7 = .ok (.bipush 24, 2) := by decide +kernel
theorem dX11_isMark_9 : decode cX11_isMark 9 = .ok (.if_icmp .gt 7, 3) := by decide +kernel
theorem dX11_isMark_12 : decode cX11_isMark 12 = .ok (.iconst 1, 1) := by decide +kernel
theorem dX11_isMark_13 : decode cX11_isMark 13 = .ok (.goto 4, 3) := by decide +kernel
theorem dX11_isMark_16 : decode cX11_isMark 16 = .ok (.iconst 0, 1) := by decide +kernel
theorem dX11_isMark_17 : decode cX11_isMark 17 = .ok (.ireturn, 1) := by decide +kernel
theorem dX11_mark_0 : decode cX11_mark 0 = .ok (.aload_n 0, 1) := by decide +kernel
theorem dX11_mark_1 : decode cX11_mark 1 = .ok (.getfield 373, 3) := by decide +kernel
theorem dX11_mark_4 : decode cX11_mark 4 = .ok (.iconst 1, 1) := by decide +kernel
theorem dX11_mark_5 : decode cX11_mark 5 = .ok (.isub, 1) := by decide +kernel
theorem dX11_mark_6 : decode cX11_mark 6 = .ok (.istore_n 1, 1) := by decide +kernel
theorem dX11_mark_7 : decode cX11_mark 7 = .ok (.iload_n 1, 1) := by decide +kernel
theorem dX11_mark_8 : decode cX11_mark 8 = .ok (.aload_n 0, 1) := by decide +kernel
theorem dX11_mark_9 : decode cX11_mark 9 = .ok (.getfield 379, 3) := by decide +kernel
theorem dX11_mark_12 : decode cX11_mark 12 = .ok (.if_icmp .lt 22, 3) := by decide +kernel
theorem dX11_mark_15 : decode cX11_mark 15 = .ok (.aload_n 0, 1) := by decide +kernel
theorem dX11_mark_16 : decode cX11_mark 16 = .ok (.aload_n 0, 1) := by decide +kernel
theorem dX11_mark_17 : decode cX11_mark 17 = .ok (.getfield 148, 3) := by decide +kernel
theorem dX11_mark_20 : decode cX11_mark 20 = .ok (.iload_n 1, 1) := by decide +kernel
theorem dX11_mark_21 : decode cX11_mark 21 = .ok (.iaload, 1) := by decide +kernel
theorem dX11_mark_22 : decode cX11_mark 22 = .ok (.invokevirtual 382, 3) := by decide +kernel
theorem dX11_mark_25 : decode cX11_mark 25 = .ok (.ifCond .ne 9, 3) := by decide +kernel
theorem dX11_mark_28 : decode cX11_mark 28 = .ok (.iinc 1 (-1), 3) := by decide +kernel
theorem dX11_mark_31 : decode cX11_mark 31 = .ok (.goto (-24), 3) := by decide +kernel
theorem dX11_mark_34 : decode cX11_mark 34 = .ok (.iload_n 1, 1) := by decide +kernel
theorem dX11_mark_35 : decode cX11_mark 35 = .ok (.aload_n 0, 1) := by decide +kernel
theorem dX11_mark_36 : decode cX11_mark 36 = .ok (.getfield 379, 3) := by decide +kernel
theorem dX11_mark_39 : decode cX11_mark 39 = .ok (.if_icmp .lt 12, 3) := by decide +kernel
theorem dX11_mark_42 : decode cX11_mark 42 = .ok (.aload_n 0, 1) := by decide +kernel
theorem dX11_mark_43 : decode cX11_mark 43 = .ok (.getfield 148, 3) := by decide +kernel
theorem dX11_mark_46 : decode cX11_mark 46 = .ok (.iload_n 1, 1) := by decide +kernel
theorem dX11_mark_47 : decode cX11_mark 47 = .ok (.iaload, 1) := by decide +kernel
theorem dX11_mark_48 : decode cX11_mark 48 = .ok (.goto 4, 3) := by decide +kernel
theorem dX11_mark_51 : decode cX11_mark 51 = .ok (.iconst (-1), 1) := by decide +kernel
theorem dX11_mark_52 : decode cX11_mark 52 = .ok (.ireturn, 1) := by decide +kernel
theorem dX11_dropsToMark_0 : decode cX11_dropsToMark 0 = .ok (.aload_n 0, 1) := by decide +kernel
theorem dX11_dropsToMark_1 : decode cX11_dropsToMark 1 = .ok (.getfield 373, 3) := by decide +kernel
theorem dX11_dropsToMark_4 : decode cX11_dropsToMark 4 = .ok (.aload_n 0, 1) := by decide +kernel
theorem dX11_dropsToMark_5 : decode cX11_dropsToMark 5 = .ok (.getfield 379, 3) := by decide +kernel
theorem dX11_dropsToMark_8 : decode cX11_dropsToMark 8 = .ok (.if_icmp .le 28, 3) := by decide +kernel
theorem dX11_dropsToMark_11 : decode cX11_dropsToMark 11 = .ok (.aload_n 0, 1) := by decide +kernel
theorem dX11_dropsToMark_12 : decode cX11_dropsToMark 12 = .ok (.aload_n 0, 1) := by decide +kernel
theorem dX11_dropsToMark_13 : decode cX11_dropsToMark 13 = .ok (.getfield 148, 3) := by decide +kernel
theorem dX11_dropsToMark_16 : decode cX11_dropsToMark 16 = .ok (.aload_n 0, 1) := by decide +kernel
theorem dX11_dropsToMark_17 : decode cX11_dropsToMark 17 = .ok (.getfield 373, 3) := by decide +kernel
theorem dX11_dropsToMark_20 : decode cX11_dropsToMark 20 = .ok (.iconst 1, 1) := by decide +kernel
theorem dX11_dropsToMark_21 : decode cX11_dropsToMark 21 = .ok (.isub, 1) := by decide +kernel
theorem dX11_dropsToMark_22 : decode cX11_dropsToMark 22 = .ok (.iaload, 1) := by decide +kernel
theorem dX11_dropsToMark_23 : decode cX11_dropsToMark 23 = .ok (.invokevirtual 382, 3) := by decide +kernel
theorem dX11_dropsToMark_26 : decode cX11_dropsToMark 26 = .ok (.ifCond .ne 10, 3) := by decide +kernel
theorem dX11_dropsToMark_29 : decode cX11_dropsToMark 29 = .ok (.aload_n 0, 1) := by decide +kernel
theorem dX11_dropsToMark_30 : decode cX11_dropsToMark 30 = .ok (.invokevirtual 385, 3) := by decide +kernel
theorem dX11_dropsToMark_33 : decode cX11_dropsToMark 33 = .ok (.goto (-33), 3) := by decide +kernel
theorem dX11_dropsToMark_36 : decode cX11_dropsToMark 36 = .ok (.return_, 1) := by decide +kernel
theorem dX11_onePart_0 : decode cX11_onePart 0 = .ok (.iconst 1, 1) := by decide +kernel
theorem dX11_onePart_1 : decode cX11_onePart 1 = .ok (.istore_n 1, 1) := by decide +kernel
theorem dX11_onePart_2 : decode cX11_onePart 2 = .ok (.iload_n 1, 1) := by decide +kernel
theorem dX11_onePart_3 : decode cX11_onePart 3 = .ok (.ifCond .eq 143, 3) := by decide +kernel
theorem dX11_onePart_6 : decode cX11_onePart 6 = .ok (.aload_n 0, 1) := by decide +kernel
theorem dX11_onePart_7 : decode cX11_onePart 7 = .ok (.getfield 224, 3) := by decide +kernel
theorem dX11_onePart_10 : decode cX11_onePart 10 = .ok (.ifCond .ne 136, 3) := by decide +kernel
theorem dX11_onePart_13 : decode cX11_onePart 13 = .ok (.aload_n 0, 1) := by decide +kernel
theorem dX11_onePart_14 : decode cX11_onePart 14 = .ok (.invokevirtual 236, 3) := by decide +kernel
theorem dX11_onePart_17 : decode cX11_onePart 17 = .ok (.istore_n 2, 1) := by decide +kernel
theorem dX11_onePart_18 : decode cX11_onePart 18 = .ok (.iload_n 2, 1) := by decide +kernel
theorem dX11_onePart_19 : decode cX11_onePart 19 = .ok (.bipush 40, 2) := by decide +kernel
theorem dX11_onePart_21 : decode cX11_onePart 21 = .ok (.if_icmp .ne 26, 3) := by decide +kernel
theorem dX11_onePart_24 : decode cX11_onePart 24 = .ok (.aload_n 0, 1) := by decide +kernel
theorem dX11_onePart_25 : decode cX11_onePart 25 = .ok (.bipush 20, 2) := by decide +kernel
theorem dX11_onePart_27 : decode cX11_onePart 27 = .ok (.aload_n 0, 1) := by decide +kernel
theorem dX11_onePart_28 : decode cX11_onePart 28 = .ok (.getfield 230, 3) := by decide +kernel
theorem dX11_onePart_31 : decode cX11_onePart 31 = .ok (.invokevirtual 388, 3) := by decide +kernel
theorem dX11_onePart_34 : decode cX11_onePart 34 = .ok (.aload_n 0, 1) := by decide +kernel
theorem dX11_onePart_35 : decode cX11_onePart 35 = .ok (.dup, 1) := by decide +kernel
theorem dX11_onePart_36 : decode cX11_onePart 36 = .ok (.getfield 230, 3) := by decide +kernel
theorem dX11_onePart_39 : decode cX11_onePart 39 = .ok (.iconst 1, 1) := by decide +kernel
theorem dX11_onePart_40 : decode cX11_onePart 40 = .ok (.iadd, 1) := by decide +kernel
theorem dX11_onePart_41 : decode cX11_onePart 41 = .ok (.putfield 230, 3) := by decide +kernel
theorem dX11_onePart_44 : decode cX11_onePart 44 = .ok (.goto 99, 3) := by decide +kernel
theorem dX11_onePart_47 : decode cX11_onePart 47 = .ok (.aload_n 0, 1) := by decide +kernel
theorem dX11_onePart_48 : decode cX11_onePart 48 = .ok (.aload_n 0, 1) := by decide +kernel
theorem dX11_onePart_49 : decode cX11_onePart 49 = .ok (.getfield 111, 3) := by decide +kernel
theorem dX11_onePart_52 : decode cX11_onePart 52 = .ok (.invokevirtual 247, 3) := by decide +kernel
theorem dX11_onePart_55 : decode cX11_onePart 55 = .ok (.ifCond .ne 14, 3) := by decide +kernel
theorem dX11_onePart_58 : decode cX11_onePart 58 = .ok (.aload_n 0, 1) := by decide +kernel
theorem dX11_onePart_59 : decode cX11_onePart 59 = .ok (.aload_n 0, 1) := by decide +kernel
theorem dX11_onePart_60 : decode cX11_onePart 60 = .ok (.getfield 114, 3) := by decide +kernel
theorem dX11_onePart_63 : decode cX11_onePart 63 = .ok (.invokevirtual 247, 3) := by decide +kernel
theorem dX11_onePart_66 : decode cX11_onePart 66 = .ok (.ifCond .eq 75, 3) := by decide +kernel
theorem dX11_onePart_69 : decode cX11_onePart 69 = .ok (.aload_n 0, 1) := by decide +kernel
theorem dX11_onePart_70 : decode cX11_onePart 70 = .ok (.aload_n 0, 1) := by decide +kernel
theorem dX11_onePart_71 : decode cX11_onePart 71 = .ok (.getfield 111, 3) := by decide +kernel
theorem dX11_onePart_74 : decode cX11_onePart 74 = .ok (.invokevirtual 251, 3) := by decide +kernel
theorem dX11_onePart_77 : decode cX11_onePart 77 = .ok (.istore_n 3, 1) := by decide +kernel
theorem dX11_onePart_78 : decode cX11_onePart 78 = .ok (.iload_n 3, 1) := by decide +kernel
theorem dX11_onePart_79 : decode cX11_onePart 79 = .ok (.ifCond .ne 11, 3) := by decide +kernel
theorem dX11_onePart_82 : decode cX11_onePart 82 = .ok (.aload_n 0, 1) := by decide +kernel
theorem dX11_onePart_83 : decode cX11_onePart 83 = .ok (.aload_n 0, 1) := by decide +kernel
theorem dX11_onePart_84 : decode cX11_onePart 84 = .ok (.getfield 114, 3) := by decide +kernel
theorem dX11_onePart_87 : decode cX11_onePart 87 = .ok (.invokevirtual 301, 3) := by decide +kernel
theorem dX11_onePart_90 : decode cX11_onePart 90 = .ok (.aload_n 0, 1) := by decide +kernel
theorem dX11_onePart_91 : decode cX11_onePart 91 = .ok (.invokevirtual 236, 3) := by decide +kernel
theorem dX11_onePart_94 : decode cX11_onePart 94 = .ok (.bipush 40, 2) := by decide +kernel
theorem dX11_onePart_96 : decode cX11_onePart 96 = .ok (.if_icmp .ne 10, 3) := by decide +kernel
theorem dX11_onePart_99 : decode cX11_onePart 99 = .ok (.aload_n 0, 1) := by decide +kernel
theorem dX11_onePart_100 : decode cX11_onePart 100 = .ok (.getfield 230, 3) := by decide +kernel
theorem dX11_onePart_103 : decode cX11_onePart 103 = .ok (.goto 4, 3) := by decide +kernel
theorem dX11_onePart_106 : decode cX11_onePart 106 = .ok (.iconst (-1), 1) := by decide +kernel
theorem dX11_onePart_107 : decode cX11_onePart 107 = .ok (.istore 4, 2) := by decide +kernel
theorem dX11_onePart_109 : decode cX11_onePart 109 = .ok (.iload 4, 2) := by decide +kernel
theorem dX11_onePart_111 : decode cX11_onePart 111 = .ok (.iconst (-1), 1) := by decide +kernel
theorem dX11_onePart_112 : decode cX11_onePart 112 = .ok (.if_icmp .eq 20, 3) := by decide +kernel
theorem dX11_onePart_115 : decode cX11_onePart 115 = .ok (.aload_n 0, 1) := by decide +kernel
theorem dX11_onePart_116 : decode cX11_onePart 116 = .ok (.iload_n 3, 1) := by decide +kernel
theorem dX11_onePart_117 : decode cX11_onePart 117 = .ok (.ifCond .eq 8, 3) := by decide +kernel
theorem dX11_onePart_120 : decode cX11_onePart 120 = .ok (.bipush 21, 2) := by decide +kernel
theorem dX11_onePart_122 : decode cX11_onePart 122 = .ok (.goto 5, 3) := by decide +kernel
theorem dX11_onePart_125 : decode cX11_onePart 125 = .ok (.bipush 22, 2) := by decide +kernel
theorem dX11_onePart_127 : decode cX11_onePart 127 = .ok (.iload 4, 2) := by decide +kernel
theorem dX11_onePart_129 : decode cX11_onePart 129 = .ok (.invokevirtual 388, 3) := by decide +kernel
theorem dX11_onePart_132 : decode cX11_onePart 132 = .ok (.aload_n 0, 1) := by decide +kernel
theorem dX11_onePart_133 : decode cX11_onePart 133 = .ok (.bipush 40, 2) := by decide +kernel
theorem dX11_onePart_135 : decode cX11_onePart 135 = .ok (.invokevirtual 340, 3) := by decide +kernel
theorem dX11_onePart_138 : decode cX11_onePart 138 = .ok (.goto 5, 3) := by decide +kernel
theorem dX11_onePart_141 : decode cX11_onePart 141 = .ok (.iconst 0, 1) := by decide +kernel
theorem dX11_onePart_142 : decode cX11_onePart 142 = .ok (.istore_n 1, 1) := by decide +kernel
theorem dX11_onePart_143 : decode cX11_onePart 143 = .ok (.goto (-141), 3) := by decide +kernel
theorem dX11_onePart_146 : decode cX11_onePart 146 = .ok (.aload_n 0, 1) := by decide +kernel
theorem dX11_onePart_147 : decode cX11_onePart 147 = .ok (.getfield 224, 3) := by decide +kernel
theorem dX11_onePart_150 : decode cX11_onePart 150 = .ok (.ifCond .eq 4, 3) := by decide +kernel
theorem dX11_onePart_153 : decode cX11_onePart 153 = .ok (.return_, 1) := by decide +kernel
theorem dX11_onePart_154 : decode cX11_onePart 154 = .ok (.aload_n 0, 1) := by decide +kernel
theorem dX11_onePart_155 : decode cX11_onePart 155 = .ok (.aload_n 0, 1) := by decide +kernel
theorem dX11_onePart_156 : decode cX11_onePart 156 = .ok (.getfield 90, 3) := by decide +kernel
theorem dX11_onePart_159 : decode cX11_onePart 159 = .ok (.invokevirtual 251, 3) := by decide +kernel
theorem dX11_onePart_162 : decode cX11_onePart 162 = .ok (.ifCond .eq 8, 3) := by decide +kernel
theorem dX11_onePart_165 : decode cX11_onePart 165 = .ok (.bipush 7, 2) := by decide +kernel
theorem dX11_onePart_167 : decode cX11_onePart 167 = .ok (.goto 52, 3) := by decide +kernel
theorem dX11_onePart_170 : decode cX11_onePart 170 = .ok (.aload_n 0, 1) := by decide +kernel
theorem dX11_onePart_171 : decode cX11_onePart 171 = .ok (.aload_n 0, 1) := by decide +kernel
theorem dX11_onePart_172 : decode cX11_onePart 172 = .ok (.getfield 24, 3) := by decide +kernel
theorem dX11_onePart_175 : decode cX11_onePart 175 = .ok (.invokevirtual 251, 3) := by decide +kernel
theorem dX11_onePart_178 : decode cX11_onePart 178 = .ok (.ifCond .eq 8, 3) := by decide +kernel
theorem dX11_onePart_181 : decode cX11_onePart 181 = .ok (.bipush 8, 2) := by decide +kernel
theorem dX11_onePart_183 : decode cX11_onePart 183 = .ok (.goto 36, 3) := by decide +kernel
theorem dX11_onePart_186 : decode cX11_onePart 186 = .ok (.aload_n 0, 1) := by decide +kernel
theorem dX11_onePart_187 : decode cX11_onePart 187 = .ok (.aload_n 0, 1) := by decide +kernel
theorem dX11_onePart_188 : decode cX11_onePart 188 = .ok (.getfield 93, 3) := by decide +kernel
theorem dX11_onePart_191 : decode cX11_onePart 191 = .ok (.invokevirtual 251, 3) := by decide +kernel
theorem dX11_onePart_194 : decode cX11_onePart 194 = .ok (.ifCond .eq 8, 3) := by decide +kernel
theorem dX11_onePart_197 : decode cX11_onePart 197 = .ok (.bipush 9, 2) := by decide +kernel
theorem dX11_onePart_199 : decode cX11_onePart 199 = .ok (.goto 20, 3) := by decide +kernel
theorem dX11_onePart_202 : decode cX11_onePart 202 = .ok (.aload_n 0, 1) := by decide +kernel
theorem dX11_onePart_203 : decode cX11_onePart 203 = .ok (.aload_n 0, 1) := by decide +kernel
theorem dX11_onePart_204 : decode cX11_onePart 204 = .ok (.getfield 96, 3) := by decide +kernel
theorem dX11_onePart_207 : decode cX11_onePart 207 = .ok (.invokevirtual 251, 3) := by decide +kernel
theorem dX11_onePart_210 : decode cX11_onePart 210 = .ok (.ifCond .eq 8, 3) := by decide +kernel
theorem dX11_onePart_213 : decode cX11_onePart 213 = .ok (.bipush 10, 2) := by decide +kernel
theorem dX11_onePart_215 : decode cX11_onePart 215 = .ok (.goto 4, 3) := by decide +kernel
theorem dX11_onePart_218 : decode cX11_onePart 218 = .ok (.iconst (-1), 1) := by decide +kernel
theorem dX11_onePart_219 : decode cX11_onePart 219 = .ok (.istore_n 2, 1) := by decide +kernel
theorem dX11_onePart_220 : decode cX11_onePart 220 = .ok (.iload_n 2, 1) := by decide +kernel
theorem dX11_onePart_221 : decode cX11_onePart 221 = .ok (.iconst (-1), 1) := by decide +kernel
theorem dX11_onePart_222 : decode cX11_onePart 222 = .ok (.if_icmp .ne 69, 3) := by decide +kernel
theorem dX11_onePart_225 : decode cX11_onePart 225 = .ok (.aload_n 0, 1) := by decide +kernel
theorem dX11_onePart_226 : decode cX11_onePart 226 = .ok (.aload_n 0, 1) := by decide +kernel
theorem dX11_onePart_227 : decode cX11_onePart 227 = .ok (.getfield 99, 3) := by decide +kernel
theorem dX11_onePart_230 : decode cX11_onePart 230 = .ok (.invokevirtual 251, 3) := by decide +kernel
theorem dX11_onePart_233 : decode cX11_onePart 233 = .ok (.ifCond .eq 8, 3) := by decide +kernel
theorem dX11_onePart_236 : decode cX11_onePart 236 = .ok (.bipush 18, 2) := by decide +kernel
theorem dX11_onePart_238 : decode cX11_onePart 238 = .ok (.goto 52, 3) := by decide +kernel
theorem dX11_onePart_241 : decode cX11_onePart 241 = .ok (.aload_n 0, 1) := by decide +kernel
theorem dX11_onePart_242 : decode cX11_onePart 242 = .ok (.aload_n 0, 1) := by decide +kernel
theorem dX11_onePart_243 : decode cX11_onePart 243 = .ok (.getfield 102, 3) := by decide +kernel
theorem dX11_onePart_246 : decode cX11_onePart 246 = .ok (.invokevirtual 251, 3) := by decide +kernel
theorem dX11_onePart_249 : decode cX11_onePart 249 = .ok (.ifCond .eq 8, 3) := by decide +kernel
theorem dX11_onePart_252 : decode cX11_onePart 252 = .ok (.bipush 30, 2) := by decide +kernel
theorem dX11_onePart_254 : decode cX11_onePart 254 = .ok (.goto 36, 3) := by decide +kernel
theorem dX11_onePart_257 : decode cX11_onePart 257 = .ok (.aload_n 0, 1) := by decide +kernel
theorem dX11_onePart_258 : decode cX11_onePart 258 = .ok (.aload_n 0, 1) := by decide +kernel
theorem dX11_onePart_259 : decode cX11_onePart 259 = .ok (.getfield 105, 3) := by decide +kernel
theorem dX11_onePart_262 : decode cX11_onePart 262 = .ok (.invokevirtual 251, 3) := by decide +kernel
theorem dX11_onePart_265 : decode cX11_onePart 265 = .ok (.ifCond .eq 8, 3) := by decide +kernel
theorem dX11_onePart_268 : decode cX11_onePart 268 = .ok (.bipush 31, 2) := by decide +kernel
theorem dX11_onePart_270 : decode cX11_onePart 270 = .ok (.goto 20, 3) := by decide +kernel
theorem dX11_onePart_273 : decode cX11_onePart 273 = .ok (.aload_n 0, 1) := by decide +kernel
theorem dX11_onePart_274 : decode cX11_onePart 274 = .ok (.aload_n 0, 1) := by decide +kernel
theorem dX11_onePart_275 : decode cX11_onePart 275 = .ok (.getfield 108, 3) := by decide +kernel
theorem dX11_onePart_278 : decode cX11_onePart 278 = .ok (.invokevirtual 251, 3) := by decide +kernel
theorem dX11_onePart_281 : decode cX11_onePart 281 = .ok (.ifCond .eq 8, 3) := by decide +kernel
theorem dX11_onePart_284 : decode cX11_onePart 284 = .ok (.bipush 32, 2) := by decide +kernel
theorem dX11_onePart_286 : decode cX11_onePart 286 = .ok (.goto 4, 3) := by decide +kernel
theorem dX11_onePart_289 : decode cX11_onePart 289 = .ok (.iconst (-1), 1) := by decide +kernel
theorem dX11_onePart_290 : decode cX11_onePart 290 = .ok (.istore_n 2, 1) := by decide +kernel
theorem dX11_onePart_291 : decode cX11_onePart 291 = .ok (.aload_n 0, 1) := by decide +kernel
theorem dX11_onePart_292 : decode cX11_onePart 292 = .ok (.iload_n 2, 1) := by decide +kernel
theorem dX11_onePart_293 : decode cX11_onePart 293 = .ok (.iconst (-1), 1) := by decide +kernel
theorem dX11_onePart_294 : decode cX11_onePart 294 = .ok (.if_icmp .eq 7, 3) := by decide +kernel
theorem dX11_onePart_297 : decode cX11_onePart 297 = .ok (.iload_n 2, 1) := by decide +kernel
theorem dX11_onePart_298 : decode cX11_onePart 298 = .ok (.goto 15, 3) := by decide +kernel
theorem dX11_onePart_301 : decode cX11_onePart 301 = .ok (.sipush 1000, 3) := by decide +kernel
theorem dX11_onePart_304 : decode cX11_onePart 304 = .ok (.aload_n 0, 1) := by decide +kernel
theorem dX11_onePart_305 : decode cX11_onePart 305 = .ok (.iconst 0, 1) := by decide +kernel
theorem dX11_onePart_306 : decode cX11_onePart 306 = .ok (.sipush 9999, 3) := by decide +kernel
theorem dX11_onePart_309 : decode cX11_onePart 309 = .ok (.invokevirtual 305, 3) := by decide +kernel
theorem dX11_onePart_312 : decode cX11_onePart 312 = .ok (.iadd, 1) := by decide +kernel
theorem dX11_onePart_313 : decode cX11_onePart 313 = .ok (.invokevirtual 376, 3) := by decide +kernel
theorem dX11_onePart_316 : decode cX11_onePart 316 = .ok (.return_, 1) := by decide +kernel
theorem dX11_goesOn_0 : decode cX11_goesOn 0 = .ok (.aload_n 0, 1) := by decide +kernel
theorem dX11_goesOn_1 : decode cX11_goesOn 1 = .ok (.getfield 224, 3) := by decide +kernel
theorem dX11_goesOn_4 : decode cX11_goesOn 4 = .ok (.ifCond .ne 114, 3) := by decide +kernel
theorem dX11_goesOn_7 : decode cX11_goesOn 7 = .ok (.aload_n 0, 1) := by decide +kernel
theorem dX11_goesOn_8 : decode cX11_goesOn 8 = .ok (.invokevirtual 236, 3) := by decide +kernel
theorem dX11_goesOn_11 : decode cX11_goesOn 11 = .ok (.bipush 41, 2) := by decide +kernel
theorem dX11_goesOn_13 : decode cX11_goesOn 13 = .ok (.if_icmp .ne 105, 3) := by decide +kernel
theorem dX11_goesOn_16 : decode cX11_goesOn 16 = .ok (.aload_n 0, 1) := by decide +kernel
theorem dX11_goesOn_17 : decode cX11_goesOn 17 = .ok (.invokevirtual 391, 3) := by decide +kernel
theorem dX11_goesOn_20 : decode cX11_goesOn 20 = .ok (.bipush 20, 2) := by decide +kernel
theorem dX11_goesOn_22 : decode cX11_goesOn 22 = .ok (.if_icmp .eq 21, 3) := by decide +kernel
theorem dX11_goesOn_25 : decode cX11_goesOn 25 = .ok (.aload_n 0, 1) := by decide +kernel
theorem dX11_goesOn_26 : decode cX11_goesOn 26 = .ok (.invokevirtual 391, 3) := by decide +kernel
theorem dX11_goesOn_29 : decode cX11_goesOn 29 = .ok (.bipush 23, 2) := by decide +kernel
theorem dX11_goesOn_31 : decode cX11_goesOn 31 = .ok (.if_icmp .eq 12, 3) := by decide +kernel
theorem dX11_goesOn_34 : decode cX11_goesOn 34 = .ok (.aload_n 0, 1) := by decide +kernel
theorem dX11_goesOn_35 : decode cX11_goesOn 35 = .ok (.invokevirtual 391, 3) := by decide +kernel
theorem dX11_goesOn_38 : decode cX11_goesOn 38 = .ok (.bipush 24, 2) := by decide +kernel
theorem dX11_goesOn_40 : decode cX11_goesOn 40 = .ok (.if_icmp .ne 78, 3) := by decide +kernel
theorem dX11_goesOn_43 : decode cX11_goesOn 43 = .ok (.aload_n 0, 1) := by decide +kernel
theorem dX11_goesOn_44 : decode cX11_goesOn 44 = .ok (.dup, 1) := by decide +kernel
theorem dX11_goesOn_45 : decode cX11_goesOn 45 = .ok (.getfield 230, 3) := by decide +kernel
theorem dX11_goesOn_48 : decode cX11_goesOn 48 = .ok (.iconst 1, 1) := by decide +kernel
theorem dX11_goesOn_49 : decode cX11_goesOn 49 = .ok (.iadd, 1) := by decide +kernel
theorem dX11_goesOn_50 : decode cX11_goesOn 50 = .ok (.putfield 230, 3) := by decide +kernel
theorem dX11_goesOn_53 : decode cX11_goesOn 53 = .ok (.aload_n 0, 1) := by decide +kernel
theorem dX11_goesOn_54 : decode cX11_goesOn 54 = .ok (.invokevirtual 394, 3) := by decide +kernel
theorem dX11_goesOn_57 : decode cX11_goesOn 57 = .ok (.aload_n 0, 1) := by decide +kernel
theorem dX11_goesOn_58 : decode cX11_goesOn 58 = .ok (.dup, 1) := by decide +kernel
theorem dX11_goesOn_59 : decode cX11_goesOn 59 = .ok (.getfield 373, 3) := by decide +kernel
theorem dX11_goesOn_62 : decode cX11_goesOn 62 = .ok (.iconst 1, 1) := by decide +kernel
theorem dX11_goesOn_63 : decode cX11_goesOn 63 = .ok (.isub, 1) := by decide +kernel
theorem dX11_goesOn_64 : decode cX11_goesOn 64 = .ok (.putfield 373, 3) := by decide +kernel
theorem dX11_goesOn_67 : decode cX11_goesOn 67 = .ok (.aload_n 0, 1) := by decide +kernel
theorem dX11_goesOn_68 : decode cX11_goesOn 68 = .ok (.dup, 1) := by decide +kernel
theorem dX11_goesOn_69 : decode cX11_goesOn 69 = .ok (.getfield 370, 3) := by decide +kernel
theorem dX11_goesOn_72 : decode cX11_goesOn 72 = .ok (.iconst 1, 1) := by decide +kernel
theorem dX11_goesOn_73 : decode cX11_goesOn 73 = .ok (.isub, 1) := by decide +kernel
theorem dX11_goesOn_74 : decode cX11_goesOn 74 = .ok (.putfield 370, 3) := by decide +kernel
theorem dX11_goesOn_77 : decode cX11_goesOn 77 = .ok (.aload_n 0, 1) := by decide +kernel
theorem dX11_goesOn_78 : decode cX11_goesOn 78 = .ok (.getfield 148, 3) := by decide +kernel
theorem dX11_goesOn_81 : decode cX11_goesOn 81 = .ok (.aload_n 0, 1) := by decide +kernel
theorem dX11_goesOn_82 : decode cX11_goesOn 82 = .ok (.getfield 373, 3) := by decide +kernel
theorem dX11_goesOn_85 : decode cX11_goesOn 85 = .ok (.iaload, 1) := by decide +kernel
theorem dX11_goesOn_86 : decode cX11_goesOn 86 = .ok (.bipush 20, 2) := by decide +kernel
theorem dX11_goesOn_88 : decode cX11_goesOn 88 = .ok (.if_icmp .eq (-88), 3) := by decide +kernel
theorem dX11_goesOn_91 : decode cX11_goesOn 91 = .ok (.aload_n 0, 1) := by decide +kernel
theorem dX11_goesOn_92 : decode cX11_goesOn 92 = .ok (.aload_n 0, 1) := by decide +kernel
theorem dX11_goesOn_93 : decode cX11_goesOn 93 = .ok (.getfield 148, 3) := by decide +kernel
theorem dX11_goesOn_96 : decode cX11_goesOn 96 = .ok (.aload_n 0, 1) := by decide +kernel
theorem dX11_goesOn_97 : decode cX11_goesOn 97 = .ok (.getfield 373, 3) := by decide +kernel
theorem dX11_goesOn_100 : decode cX11_goesOn 100 = .ok (.iaload, 1) := by decide +kernel
theorem dX11_goesOn_101 : decode cX11_goesOn 101 = .ok (.bipush 23, 2) := by decide +kernel
theorem dX11_goesOn_103 : decode cX11_goesOn 103 = .ok (.if_icmp .ne 7, 3) := by decide +kernel
theorem dX11_goesOn_106 : decode cX11_goesOn 106 = .ok (.iconst 5, 1) := by decide +kernel
theorem dX11_goesOn_107 : decode cX11_goesOn 107 = .ok (.goto 5, 3) := by decide +kernel
theorem dX11_goesOn_110 : decode cX11_goesOn 110 = .ok (.bipush 6, 2) := by decide +kernel
theorem dX11_goesOn_112 : decode cX11_goesOn 112 = .ok (.invokevirtual 376, 3) := by decide +kernel
theorem dX11_goesOn_115 : decode cX11_goesOn 115 = .ok (.goto (-115), 3) := by decide +kernel
theorem dX11_goesOn_118 : decode cX11_goesOn 118 = .ok (.aload_n 0, 1) := by decide +kernel
theorem dX11_goesOn_119 : decode cX11_goesOn 119 = .ok (.bipush 42, 2) := by decide +kernel
theorem dX11_goesOn_121 : decode cX11_goesOn 121 = .ok (.invokevirtual 258, 3) := by decide +kernel
theorem dX11_goesOn_124 : decode cX11_goesOn 124 = .ok (.ifCond .ne 12, 3) := by decide +kernel
theorem dX11_goesOn_127 : decode cX11_goesOn 127 = .ok (.aload_n 0, 1) := by decide +kernel
theorem dX11_goesOn_128 : decode cX11_goesOn 128 = .ok (.bipush 47, 2) := by decide +kernel
theorem dX11_goesOn_130 : decode cX11_goesOn 130 = .ok (.invokevirtual 258, 3) := by decide +kernel
theorem dX11_goesOn_133 : decode cX11_goesOn 133 = .ok (.ifCond .eq 70, 3) := by decide +kernel
theorem dX11_goesOn_136 : decode cX11_goesOn 136 = .ok (.aload_n 0, 1) := by decide +kernel
theorem dX11_goesOn_137 : decode cX11_goesOn 137 = .ok (.getfield 7, 3) := by decide +kernel
theorem dX11_goesOn_140 : decode cX11_goesOn 140 = .ok (.aload_n 0, 1) := by decide +kernel
theorem dX11_goesOn_141 : decode cX11_goesOn 141 = .ok (.getfield 230, 3) := by decide +kernel
theorem dX11_goesOn_144 : decode cX11_goesOn 144 = .ok (.iconst 1, 1) := by decide +kernel
theorem dX11_goesOn_145 : decode cX11_goesOn 145 = .ok (.isub, 1) := by decide +kernel
theorem dX11_goesOn_146 : decode cX11_goesOn 146 = .ok (.iaload, 1) := by decide +kernel
theorem dX11_goesOn_147 : decode cX11_goesOn 147 = .ok (.bipush 42, 2) := by decide +kernel
theorem dX11_goesOn_149 : decode cX11_goesOn 149 = .ok (.if_icmp .ne 7, 3) := by decide +kernel
theorem dX11_goesOn_152 : decode cX11_goesOn 152 = .ok (.iconst 3, 1) := by decide +kernel
theorem dX11_goesOn_153 : decode cX11_goesOn 153 = .ok (.goto 4, 3) := by decide +kernel
theorem dX11_goesOn_156 : decode cX11_goesOn 156 = .ok (.iconst 4, 1) := by decide +kernel
theorem dX11_goesOn_157 : decode cX11_goesOn 157 = .ok (.istore_n 1, 1) := by decide +kernel
theorem dX11_goesOn_158 : decode cX11_goesOn 158 = .ok (.aload_n 0, 1) := by decide +kernel
theorem dX11_goesOn_159 : decode cX11_goesOn 159 = .ok (.iconst 3, 1) := by decide +kernel
theorem dX11_goesOn_160 : decode cX11_goesOn 160 = .ok (.invokevirtual 397, 3) := by decide +kernel
theorem dX11_goesOn_163 : decode cX11_goesOn 163 = .ok (.ifCond .ne 11, 3) := by decide +kernel
theorem dX11_goesOn_166 : decode cX11_goesOn 166 = .ok (.aload_n 0, 1) := by decide +kernel
theorem dX11_goesOn_167 : decode cX11_goesOn 167 = .ok (.iconst 4, 1) := by decide +kernel
theorem dX11_goesOn_168 : decode cX11_goesOn 168 = .ok (.invokevirtual 397, 3) := by decide +kernel
theorem dX11_goesOn_171 : decode cX11_goesOn 171 = .ok (.ifCond .eq 10, 3) := by decide +kernel
theorem dX11_goesOn_174 : decode cX11_goesOn 174 = .ok (.aload_n 0, 1) := by decide +kernel
theorem dX11_goesOn_175 : decode cX11_goesOn 175 = .ok (.invokevirtual 385, 3) := by decide +kernel
theorem dX11_goesOn_178 : decode cX11_goesOn 178 = .ok (.goto (-20), 3) := by decide +kernel
theorem dX11_goesOn_181 : decode cX11_goesOn 181 = .ok (.aload_n 0, 1) := by decide +kernel
theorem dX11_goesOn_182 : decode cX11_goesOn 182 = .ok (.getfield 148, 3) := by decide +kernel
theorem dX11_goesOn_185 : decode cX11_goesOn 185 = .ok (.aload_n 0, 1) := by decide +kernel
theorem dX11_goesOn_186 : decode cX11_goesOn 186 = .ok (.getfield 373, 3) := by decide +kernel
theorem dX11_goesOn_189 : decode cX11_goesOn 189 = .ok (.iload_n 1, 1) := by decide +kernel
theorem dX11_goesOn_190 : decode cX11_goesOn 190 = .ok (.iastore, 1) := by decide +kernel
theorem dX11_goesOn_191 : decode cX11_goesOn 191 = .ok (.aload_n 0, 1) := by decide +kernel
theorem dX11_goesOn_192 : decode cX11_goesOn 192 = .ok (.dup, 1) := by decide +kernel
theorem dX11_goesOn_193 : decode cX11_goesOn 193 = .ok (.getfield 373, 3) := by decide +kernel
theorem dX11_goesOn_196 : decode cX11_goesOn 196 = .ok (.iconst 1, 1) := by decide +kernel
theorem dX11_goesOn_197 : decode cX11_goesOn 197 = .ok (.iadd, 1) := by decide +kernel
theorem dX11_goesOn_198 : decode cX11_goesOn 198 = .ok (.putfield 373, 3) := by decide +kernel
theorem dX11_goesOn_201 : decode cX11_goesOn 201 = .ok (.iconst 1, 1) := by decide +kernel
theorem dX11_goesOn_202 : decode cX11_goesOn 202 = .ok (.ireturn, 1) := by decide +kernel
theorem dX11_goesOn_203 : decode cX11_goesOn 203 = .ok (.aload_n 0, 1) := by decide +kernel
theorem dX11_goesOn_204 : decode cX11_goesOn 204 = .ok (.bipush 43, 2) := by decide +kernel
theorem dX11_goesOn_206 : decode cX11_goesOn 206 = .ok (.invokevirtual 258, 3) := by decide +kernel
theorem dX11_goesOn_209 : decode cX11_goesOn 209 = .ok (.ifCond .ne 12, 3) := by decide +kernel
theorem dX11_goesOn_212 : decode cX11_goesOn 212 = .ok (.aload_n 0, 1) := by decide +kernel
theorem dX11_goesOn_213 : decode cX11_goesOn 213 = .ok (.bipush 45, 2) := by decide +kernel
theorem dX11_goesOn_215 : decode cX11_goesOn 215 = .ok (.invokevirtual 258, 3) := by decide +kernel
theorem dX11_goesOn_218 : decode cX11_goesOn 218 = .ok (.ifCond .eq 86, 3) := by decide +kernel
theorem dX11_goesOn_221 : decode cX11_goesOn 221 = .ok (.aload_n 0, 1) := by decide +kernel
theorem dX11_goesOn_222 : decode cX11_goesOn 222 = .ok (.getfield 7, 3) := by decide +kernel
theorem dX11_goesOn_225 : decode cX11_goesOn 225 = .ok (.aload_n 0, 1) := by decide +kernel
theorem dX11_goesOn_226 : decode cX11_goesOn 226 = .ok (.getfield 230, 3) := by decide +kernel
theorem dX11_goesOn_229 : decode cX11_goesOn 229 = .ok (.iconst 1, 1) := by decide +kernel
theorem dX11_goesOn_230 : decode cX11_goesOn 230 = .ok (.isub, 1) := by decide +kernel
theorem dX11_goesOn_231 : decode cX11_goesOn 231 = .ok (.iaload, 1) := by decide +kernel
theorem dX11_goesOn_232 : decode cX11_goesOn 232 = .ok (.bipush 43, 2) := by decide +kernel
theorem dX11_goesOn_234 : decode cX11_goesOn 234 = .ok (.if_icmp .ne 7, 3) := by decide +kernel
theorem dX11_goesOn_237 : decode cX11_goesOn 237 = .ok (.iconst 1, 1) := by decide +kernel
theorem dX11_goesOn_238 : decode cX11_goesOn 238 = .ok (.goto 4, 3) := by decide +kernel
theorem dX11_goesOn_241 : decode cX11_goesOn 241 = .ok (.iconst 2, 1) := by decide +kernel
theorem dX11_goesOn_242 : decode cX11_goesOn 242 = .ok (.istore_n 1, 1) := by decide +kernel
theorem dX11_goesOn_243 : decode cX11_goesOn 243 = .ok (.aload_n 0, 1) := by decide +kernel
theorem dX11_goesOn_244 : decode cX11_goesOn 244 = .ok (.iconst 3, 1) := by decide +kernel
theorem dX11_goesOn_245 : decode cX11_goesOn 245 = .ok (.invokevirtual 397, 3) := by decide +kernel
theorem dX11_goesOn_248 : decode cX11_goesOn 248 = .ok (.ifCond .ne 27, 3) := by decide +kernel
theorem dX11_goesOn_251 : decode cX11_goesOn 251 = .ok (.aload_n 0, 1) := by decide +kernel
theorem dX11_goesOn_252 : decode cX11_goesOn 252 = .ok (.iconst 4, 1) := by decide +kernel
theorem dX11_goesOn_253 : decode cX11_goesOn 253 = .ok (.invokevirtual 397, 3) := by decide +kernel
theorem dX11_goesOn_256 : decode cX11_goesOn 256 = .ok (.ifCond .ne 19, 3) := by decide +kernel
theorem dX11_goesOn_259 : decode cX11_goesOn 259 = .ok (.aload_n 0, 1) := by decide +kernel
theorem dX11_goesOn_260 : decode cX11_goesOn 260 = .ok (.iconst 1, 1) := by decide +kernel
theorem dX11_goesOn_261 : decode cX11_goesOn 261 = .ok (.invokevirtual 397, 3) := by decide +kernel
theorem dX11_goesOn_264 : decode cX11_goesOn 264 = .ok (.ifCond .ne 11, 3) := by decide +kernel
theorem dX11_goesOn_267 : decode cX11_goesOn 267 = .ok (.aload_n 0, 1) := by decide +kernel
theorem dX11_goesOn_268 : decode cX11_goesOn 268 = .ok (.iconst 2, 1) := by decide +kernel
theorem dX11_goesOn_269 : decode cX11_goesOn 269 = .ok (.invokevirtual 397, 3) := by decide +kernel
theorem dX11_goesOn_272 : decode cX11_goesOn 272 = .ok (.ifCond .eq 10, 3) := by decide +kernel
theorem dX11_goesOn_275 : decode cX11_goesOn 275 = .ok (.aload_n 0, 1) := by decide +kernel
theorem dX11_goesOn_276 : decode cX11_goesOn 276 = .ok (.invokevirtual 385, 3) := by decide +kernel
theorem dX11_goesOn_279 : decode cX11_goesOn 279 = .ok (.goto (-36), 3) := by decide +kernel
theorem dX11_goesOn_282 : decode cX11_goesOn 282 = .ok (.aload_n 0, 1) := by decide +kernel
theorem dX11_goesOn_283 : decode cX11_goesOn 283 = .ok (.getfield 148, 3) := by decide +kernel
theorem dX11_goesOn_286 : decode cX11_goesOn 286 = .ok (.aload_n 0, 1) := by decide +kernel
theorem dX11_goesOn_287 : decode cX11_goesOn 287 = .ok (.getfield 373, 3) := by decide +kernel
theorem dX11_goesOn_290 : decode cX11_goesOn 290 = .ok (.iload_n 1, 1) := by decide +kernel
theorem dX11_goesOn_291 : decode cX11_goesOn 291 = .ok (.iastore, 1) := by decide +kernel
theorem dX11_goesOn_292 : decode cX11_goesOn 292 = .ok (.aload_n 0, 1) := by decide +kernel
theorem dX11_goesOn_293 : decode cX11_goesOn 293 = .ok (.dup, 1) := by decide +kernel
theorem dX11_goesOn_294 : decode cX11_goesOn 294 = .ok (.getfield 373, 3) := by decide +kernel
theorem dX11_goesOn_297 : decode cX11_goesOn 297 = .ok (.iconst 1, 1) := by decide +kernel
theorem dX11_goesOn_298 : decode cX11_goesOn 298 = .ok (.iadd, 1) := by decide +kernel
theorem dX11_goesOn_299 : decode cX11_goesOn 299 = .ok (.putfield 373, 3) := by decide +kernel
theorem dX11_goesOn_302 : decode cX11_goesOn 302 = .ok (.iconst 1, 1) := by decide +kernel
theorem dX11_goesOn_303 : decode cX11_goesOn 303 = .ok (.ireturn, 1) := by decide +kernel
theorem dX11_goesOn_304 : decode cX11_goesOn 304 = .ok (.aload_n 0, 1) := by decide +kernel
theorem dX11_goesOn_305 : decode cX11_goesOn 305 = .ok (.invokevirtual 391, 3) := by decide +kernel
theorem dX11_goesOn_308 : decode cX11_goesOn 308 = .ok (.bipush 21, 2) := by decide +kernel
theorem dX11_goesOn_310 : decode cX11_goesOn 310 = .ok (.if_icmp .eq 12, 3) := by decide +kernel
theorem dX11_goesOn_313 : decode cX11_goesOn 313 = .ok (.aload_n 0, 1) := by decide +kernel
theorem dX11_goesOn_314 : decode cX11_goesOn 314 = .ok (.invokevirtual 391, 3) := by decide +kernel
theorem dX11_goesOn_317 : decode cX11_goesOn 317 = .ok (.bipush 22, 2) := by decide +kernel
theorem dX11_goesOn_319 : decode cX11_goesOn 319 = .ok (.if_icmp .ne 39, 3) := by decide +kernel
theorem dX11_goesOn_322 : decode cX11_goesOn 322 = .ok (.aload_n 0, 1) := by decide +kernel
theorem dX11_goesOn_323 : decode cX11_goesOn 323 = .ok (.bipush 44, 2) := by decide +kernel
theorem dX11_goesOn_325 : decode cX11_goesOn 325 = .ok (.invokevirtual 340, 3) := by decide +kernel
theorem dX11_goesOn_328 : decode cX11_goesOn 328 = .ok (.aload_n 0, 1) := by decide +kernel
theorem dX11_goesOn_329 : decode cX11_goesOn 329 = .ok (.getfield 224, 3) := by decide +kernel
theorem dX11_goesOn_332 : decode cX11_goesOn 332 = .ok (.ifCond .eq 5, 3) := by decide +kernel
theorem dX11_goesOn_335 : decode cX11_goesOn 335 = .ok (.iconst 0, 1) := by decide +kernel
theorem dX11_goesOn_336 : decode cX11_goesOn 336 = .ok (.ireturn, 1) := by decide +kernel
theorem dX11_goesOn_337 : decode cX11_goesOn 337 = .ok (.aload_n 0, 1) := by decide +kernel
theorem dX11_goesOn_338 : decode cX11_goesOn 338 = .ok (.invokevirtual 394, 3) := by decide +kernel
theorem dX11_goesOn_341 : decode cX11_goesOn 341 = .ok (.aload_n 0, 1) := by decide +kernel
theorem dX11_goesOn_342 : decode cX11_goesOn 342 = .ok (.getfield 148, 3) := by decide +kernel
theorem dX11_goesOn_345 : decode cX11_goesOn 345 = .ok (.aload_n 0, 1) := by decide +kernel
theorem dX11_goesOn_346 : decode cX11_goesOn 346 = .ok (.getfield 373, 3) := by decide +kernel
theorem dX11_goesOn_349 : decode cX11_goesOn 349 = .ok (.iconst 1, 1) := by decide +kernel
theorem dX11_goesOn_350 : decode cX11_goesOn 350 = .ok (.isub, 1) := by decide +kernel
theorem dX11_goesOn_351 : decode cX11_goesOn 351 = .ok (.dup2, 1) := by decide +kernel
theorem dX11_goesOn_352 : decode cX11_goesOn 352 = .ok (.iaload, 1) := by decide +kernel
theorem dX11_goesOn_353 : decode cX11_goesOn 353 = .ok (.iconst 2, 1) := by decide +kernel
theorem dX11_goesOn_354 : decode cX11_goesOn 354 = .ok (.iadd, 1) := by decide +kernel
theorem dX11_goesOn_355 : decode cX11_goesOn 355 = .ok (.iastore, 1) := by decide +kernel
theorem dX11_goesOn_356 : decode cX11_goesOn 356 = .ok (.iconst 1, 1) := by decide +kernel
theorem dX11_goesOn_357 : decode cX11_goesOn 357 = .ok (.ireturn, 1) := by decide +kernel
theorem dX11_goesOn_358 : decode cX11_goesOn 358 = .ok (.aload_n 0, 1) := by decide +kernel
theorem dX11_goesOn_359 : decode cX11_goesOn 359 = .ok (.invokevirtual 391, 3) := by decide +kernel
theorem dX11_goesOn_362 : decode cX11_goesOn 362 = .ok (.iconst (-1), 1) := by decide +kernel
theorem dX11_goesOn_363 : decode cX11_goesOn 363 = .ok (.if_icmp .eq 19, 3) := by decide +kernel
theorem dX11_goesOn_366 : decode cX11_goesOn 366 = .ok (.aload_n 0, 1) := by decide +kernel
theorem dX11_goesOn_367 : decode cX11_goesOn 367 = .ok (.getfield 224, 3) := by decide +kernel
theorem dX11_goesOn_370 : decode cX11_goesOn 370 = .ok (.ifCond .ne 12, 3) := by decide +kernel
theorem dX11_goesOn_373 : decode cX11_goesOn 373 = .ok (.aload_n 0, 1) := by decide +kernel
theorem dX11_goesOn_374 : decode cX11_goesOn 374 = .ok (.iconst 1, 1) := by decide +kernel
theorem dX11_goesOn_375 : decode cX11_goesOn 375 = .ok (.aload_n 0, 1) := by decide +kernel
theorem dX11_goesOn_376 : decode cX11_goesOn 376 = .ok (.getfield 230, 3) := by decide +kernel
theorem dX11_goesOn_379 : decode cX11_goesOn 379 = .ok (.invokevirtual 254, 3) := by decide +kernel
theorem dX11_goesOn_382 : decode cX11_goesOn 382 = .ok (.iconst 0, 1) := by decide +kernel
theorem dX11_goesOn_383 : decode cX11_goesOn 383 = .ok (.ireturn, 1) := by decide +kernel
theorem dX11_sums_0 : decode cX11_sums 0 = .ok (.aload_n 0, 1) := by decide +kernel
theorem dX11_sums_1 : decode cX11_sums 1 = .ok (.getfield 379, 3) := by decide +kernel
theorem dX11_sums_4 : decode cX11_sums 4 = .ok (.istore_n 1, 1) := by decide +kernel
theorem dX11_sums_5 : decode cX11_sums 5 = .ok (.aload_n 0, 1) := by decide +kernel
theorem dX11_sums_6 : decode cX11_sums 6 = .ok (.aload_n 0, 1) := by decide +kernel
theorem dX11_sums_7 : decode cX11_sums 7 = .ok (.getfield 373, 3) := by decide +kernel
theorem dX11_sums_10 : decode cX11_sums 10 = .ok (.putfield 379, 3) := by decide +kernel
theorem dX11_sums_13 : decode cX11_sums 13 = .ok (.iconst 1, 1) := by decide +kernel
theorem dX11_sums_14 : decode cX11_sums 14 = .ok (.istore_n 2, 1) := by decide +kernel
theorem dX11_sums_15 : decode cX11_sums 15 = .ok (.iload_n 2, 1) := by decide +kernel
theorem dX11_sums_16 : decode cX11_sums 16 = .ok (.ifCond .eq 37, 3) := by decide +kernel
theorem dX11_sums_19 : decode cX11_sums 19 = .ok (.aload_n 0, 1) := by decide +kernel
theorem dX11_sums_20 : decode cX11_sums 20 = .ok (.getfield 224, 3) := by decide +kernel
theorem dX11_sums_23 : decode cX11_sums 23 = .ok (.ifCond .ne 30, 3) := by decide +kernel
theorem dX11_sums_26 : decode cX11_sums 26 = .ok (.aload_n 0, 1) := by decide +kernel
theorem dX11_sums_27 : decode cX11_sums 27 = .ok (.invokevirtual 400, 3) := by decide +kernel
theorem dX11_sums_30 : decode cX11_sums 30 = .ok (.aload_n 0, 1) := by decide +kernel
theorem dX11_sums_31 : decode cX11_sums 31 = .ok (.getfield 224, 3) := by decide +kernel
theorem dX11_sums_34 : decode cX11_sums 34 = .ok (.ifCond .ne 14, 3) := by decide +kernel
theorem dX11_sums_37 : decode cX11_sums 37 = .ok (.aload_n 0, 1) := by decide +kernel
theorem dX11_sums_38 : decode cX11_sums 38 = .ok (.invokevirtual 403, 3) := by decide +kernel
theorem dX11_sums_41 : decode cX11_sums 41 = .ok (.ifCond .eq 7, 3) := by decide +kernel
theorem dX11_sums_44 : decode cX11_sums 44 = .ok (.iconst 1, 1) := by decide +kernel
theorem dX11_sums_45 : decode cX11_sums 45 = .ok (.goto 4, 3) := by decide +kernel
theorem dX11_sums_48 : decode cX11_sums 48 = .ok (.iconst 0, 1) := by decide +kernel
theorem dX11_sums_49 : decode cX11_sums 49 = .ok (.istore_n 2, 1) := by decide +kernel
theorem dX11_sums_50 : decode cX11_sums 50 = .ok (.goto (-35), 3) := by decide +kernel
theorem dX11_sums_53 : decode cX11_sums 53 = .ok (.aload_n 0, 1) := by decide +kernel
theorem dX11_sums_54 : decode cX11_sums 54 = .ok (.getfield 224, 3) := by decide +kernel
theorem dX11_sums_57 : decode cX11_sums 57 = .ok (.ifCond .ne 21, 3) := by decide +kernel
theorem dX11_sums_60 : decode cX11_sums 60 = .ok (.aload_n 0, 1) := by decide +kernel
theorem dX11_sums_61 : decode cX11_sums 61 = .ok (.getfield 373, 3) := by decide +kernel
theorem dX11_sums_64 : decode cX11_sums 64 = .ok (.aload_n 0, 1) := by decide +kernel
theorem dX11_sums_65 : decode cX11_sums 65 = .ok (.getfield 379, 3) := by decide +kernel
theorem dX11_sums_68 : decode cX11_sums 68 = .ok (.if_icmp .le 10, 3) := by decide +kernel
theorem dX11_sums_71 : decode cX11_sums 71 = .ok (.aload_n 0, 1) := by decide +kernel
theorem dX11_sums_72 : decode cX11_sums 72 = .ok (.invokevirtual 385, 3) := by decide +kernel
theorem dX11_sums_75 : decode cX11_sums 75 = .ok (.goto (-22), 3) := by decide +kernel
theorem dX11_sums_78 : decode cX11_sums 78 = .ok (.aload_n 0, 1) := by decide +kernel
theorem dX11_sums_79 : decode cX11_sums 79 = .ok (.iload_n 1, 1) := by decide +kernel
theorem dX11_sums_80 : decode cX11_sums 80 = .ok (.putfield 379, 3) := by decide +kernel
theorem dX11_sums_83 : decode cX11_sums 83 = .ok (.return_, 1) := by decide +kernel
theorem dX11_fact_0 : decode cX11_fact 0 = .ok (.aload_n 0, 1) := by decide +kernel
theorem dX11_fact_1 : decode cX11_fact 1 = .ok (.aload_n 0, 1) := by decide +kernel
theorem dX11_fact_2 : decode cX11_fact 2 = .ok (.getfield 87, 3) := by decide +kernel
theorem dX11_fact_5 : decode cX11_fact 5 = .ok (.invokevirtual 251, 3) := by decide +kernel
theorem dX11_fact_8 : decode cX11_fact 8 = .ok (.ifCond .eq 10, 3) := by decide +kernel
theorem dX11_fact_11 : decode cX11_fact 11 = .ok (.aload_n 0, 1) := by decide +kernel
theorem dX11_fact_12 : decode cX11_fact 12 = .ok (.bipush 17, 2) := by decide +kernel
theorem dX11_fact_14 : decode cX11_fact 14 = .ok (.invokevirtual 376, 3) := by decide +kernel
theorem dX11_fact_17 : decode cX11_fact 17 = .ok (.return_, 1) := by decide +kernel
theorem dX11_fact_18 : decode cX11_fact 18 = .ok (.aload_n 0, 1) := by decide +kernel
theorem dX11_fact_19 : decode cX11_fact 19 = .ok (.invokevirtual 406, 3) := by decide +kernel
theorem dX11_fact_22 : decode cX11_fact 22 = .ok (.aload_n 0, 1) := by decide +kernel
theorem dX11_fact_23 : decode cX11_fact 23 = .ok (.getfield 224, 3) := by decide +kernel
theorem dX11_fact_26 : decode cX11_fact 26 = .ok (.ifCond .eq 4, 3) := by decide +kernel
theorem dX11_fact_29 : decode cX11_fact 29 = .ok (.return_, 1) := by decide +kernel
theorem dX11_fact_30 : decode cX11_fact 30 = .ok (.aload_n 0, 1) := by decide +kernel
theorem dX11_fact_31 : decode cX11_fact 31 = .ok (.invokevirtual 236, 3) := by decide +kernel
theorem dX11_fact_34 : decode cX11_fact 34 = .ok (.istore_n 1, 1) := by decide +kernel
theorem dX11_fact_35 : decode cX11_fact 35 = .ok (.iload_n 1, 1) := by decide +kernel
theorem dX11_fact_36 : decode cX11_fact 36 = .ok (.bipush 60, 2) := by decide +kernel
theorem dX11_fact_38 : decode cX11_fact 38 = .ok (.if_icmp .eq 25, 3) := by decide +kernel
theorem dX11_fact_41 : decode cX11_fact 41 = .ok (.iload_n 1, 1) := by decide +kernel
theorem dX11_fact_42 : decode cX11_fact 42 = .ok (.bipush 62, 2) := by decide +kernel
theorem dX11_fact_44 : decode cX11_fact 44 = .ok (.if_icmp .eq 19, 3) := by decide +kernel
theorem dX11_fact_47 : decode cX11_fact 47 = .ok (.iload_n 1, 1) := by decide +kernel
theorem dX11_fact_48 : decode cX11_fact 48 = .ok (.bipush 61, 2) := by decide +kernel
theorem dX11_fact_50 : decode cX11_fact 50 = .ok (.if_icmp .eq 13, 3) := by decide +kernel
theorem dX11_fact_53 : decode cX11_fact 53 = .ok (.aload_n 0, 1) := by decide +kernel
theorem dX11_fact_54 : decode cX11_fact 54 = .ok (.iconst 1, 1) := by decide +kernel
theorem dX11_fact_55 : decode cX11_fact 55 = .ok (.aload_n 0, 1) := by decide +kernel
theorem dX11_fact_56 : decode cX11_fact 56 = .ok (.getfield 230, 3) := by decide +kernel
theorem dX11_fact_59 : decode cX11_fact 59 = .ok (.invokevirtual 254, 3) := by decide +kernel
theorem dX11_fact_62 : decode cX11_fact 62 = .ok (.return_, 1) := by decide +kernel
theorem dX11_fact_63 : decode cX11_fact 63 = .ok (.aload_n 0, 1) := by decide +kernel
theorem dX11_fact_64 : decode cX11_fact 64 = .ok (.dup, 1) := by decide +kernel
theorem dX11_fact_65 : decode cX11_fact 65 = .ok (.getfield 230, 3) := by decide +kernel
theorem dX11_fact_68 : decode cX11_fact 68 = .ok (.iconst 1, 1) := by decide +kernel
theorem dX11_fact_69 : decode cX11_fact 69 = .ok (.iadd, 1) := by decide +kernel
theorem dX11_fact_70 : decode cX11_fact 70 = .ok (.putfield 230, 3) := by decide +kernel
theorem dX11_fact_73 : decode cX11_fact 73 = .ok (.aload_n 0, 1) := by decide +kernel
theorem dX11_fact_74 : decode cX11_fact 74 = .ok (.invokevirtual 406, 3) := by decide +kernel
theorem dX11_fact_77 : decode cX11_fact 77 = .ok (.aload_n 0, 1) := by decide +kernel
theorem dX11_fact_78 : decode cX11_fact 78 = .ok (.iload_n 1, 1) := by decide +kernel
theorem dX11_fact_79 : decode cX11_fact 79 = .ok (.bipush 60, 2) := by decide +kernel
theorem dX11_fact_81 : decode cX11_fact 81 = .ok (.if_icmp .ne 8, 3) := by decide +kernel
theorem dX11_fact_84 : decode cX11_fact 84 = .ok (.bipush 11, 2) := by decide +kernel
theorem dX11_fact_86 : decode cX11_fact 86 = .ok (.goto 16, 3) := by decide +kernel
theorem dX11_fact_89 : decode cX11_fact 89 = .ok (.iload_n 1, 1) := by decide +kernel
theorem dX11_fact_90 : decode cX11_fact 90 = .ok (.bipush 62, 2) := by decide +kernel
theorem dX11_fact_92 : decode cX11_fact 92 = .ok (.if_icmp .ne 8, 3) := by decide +kernel
theorem dX11_fact_95 : decode cX11_fact 95 = .ok (.bipush 12, 2) := by decide +kernel
theorem dX11_fact_97 : decode cX11_fact 97 = .ok (.goto 5, 3) := by decide +kernel
theorem dX11_fact_100 : decode cX11_fact 100 = .ok (.bipush 13, 2) := by decide +kernel
theorem dX11_fact_102 : decode cX11_fact 102 = .ok (.invokevirtual 376, 3) := by decide +kernel
theorem dX11_fact_105 : decode cX11_fact 105 = .ok (.return_, 1) := by decide +kernel
theorem dX11_hasSquare_0 : decode cX11_hasSquare 0 = .ok (.iconst 0, 1) := by decide +kernel
theorem dX11_hasSquare_1 : decode cX11_hasSquare 1 = .ok (.istore_n 1, 1) := by decide +kernel
theorem dX11_hasSquare_2 : decode cX11_hasSquare 2 = .ok (.iload_n 1, 1) := by decide +kernel
theorem dX11_hasSquare_3 : decode cX11_hasSquare 3 = .ok (.aload_n 0, 1) := by decide +kernel
theorem dX11_hasSquare_4 : decode cX11_hasSquare 4 = .ok (.getfield 373, 3) := by decide +kernel
theorem dX11_hasSquare_7 : decode cX11_hasSquare 7 = .ok (.if_icmp .ge 22, 3) := by decide +kernel
theorem dX11_hasSquare_10 : decode cX11_hasSquare 10 = .ok (.aload_n 0, 1) := by decide +kernel
theorem dX11_hasSquare_11 : decode cX11_hasSquare 11 = .ok (.getfield 148, 3) := by decide +kernel
theorem dX11_hasSquare_14 : decode cX11_hasSquare 14 = .ok (.iload_n 1, 1) := by decide +kernel
theorem dX11_hasSquare_15 : decode cX11_hasSquare 15 = .ok (.iaload, 1) := by decide +kernel
theorem dX11_hasSquare_16 : decode cX11_hasSquare 16 = .ok (.bipush 25, 2) := by decide +kernel
theorem dX11_hasSquare_18 : decode cX11_hasSquare 18 = .ok (.if_icmp .ne 5, 3) := by decide +kernel
theorem dX11_hasSquare_21 : decode cX11_hasSquare 21 = .ok (.iconst 1, 1) := by decide +kernel
theorem dX11_hasSquare_22 : decode cX11_hasSquare 22 = .ok (.ireturn, 1) := by decide +kernel
theorem dX11_hasSquare_23 : decode cX11_hasSquare 23 = .ok (.iinc 1 1, 3) := by decide +kernel
theorem dX11_hasSquare_26 : decode cX11_hasSquare 26 = .ok (.goto (-24), 3) := by decide +kernel
theorem dX11_hasSquare_29 : decode cX11_hasSquare 29 = .ok (.iconst 0, 1) := by decide +kernel
theorem dX11_hasSquare_30 : decode cX11_hasSquare 30 = .ok (.ireturn, 1) := by decide +kernel
theorem dX11_dropsNots_0 : decode cX11_dropsNots 0 = .ok (.aload_n 0, 1) := by decide +kernel
theorem dX11_dropsNots_1 : decode cX11_dropsNots 1 = .ok (.getfield 224, 3) := by decide +kernel
theorem dX11_dropsNots_4 : decode cX11_dropsNots 4 = .ok (.ifCond .ne 29, 3) := by decide +kernel
theorem dX11_dropsNots_7 : decode cX11_dropsNots 7 = .ok (.aload_n 0, 1) := by decide +kernel
theorem dX11_dropsNots_8 : decode cX11_dropsNots 8 = .ok (.bipush 16, 2) := by decide +kernel
theorem dX11_dropsNots_10 : decode cX11_dropsNots 10 = .ok (.invokevirtual 397, 3) := by decide +kernel
theorem dX11_dropsNots_13 : decode cX11_dropsNots 13 = .ok (.ifCond .eq 20, 3) := by decide +kernel
theorem dX11_dropsNots_16 : decode cX11_dropsNots 16 = .ok (.aload_n 0, 1) := by decide +kernel
theorem dX11_dropsNots_17 : decode cX11_dropsNots 17 = .ok (.dup, 1) := by decide +kernel
theorem dX11_dropsNots_18 : decode cX11_dropsNots 18 = .ok (.getfield 370, 3) := by decide +kernel
theorem dX11_dropsNots_21 : decode cX11_dropsNots 21 = .ok (.iconst 1, 1) := by decide +kernel
theorem dX11_dropsNots_22 : decode cX11_dropsNots 22 = .ok (.isub, 1) := by decide +kernel
theorem dX11_dropsNots_23 : decode cX11_dropsNots 23 = .ok (.putfield 370, 3) := by decide +kernel
theorem dX11_dropsNots_26 : decode cX11_dropsNots 26 = .ok (.aload_n 0, 1) := by decide +kernel
theorem dX11_dropsNots_27 : decode cX11_dropsNots 27 = .ok (.invokevirtual 385, 3) := by decide +kernel
theorem dX11_dropsNots_30 : decode cX11_dropsNots 30 = .ok (.goto (-30), 3) := by decide +kernel
theorem dX11_dropsNots_33 : decode cX11_dropsNots 33 = .ok (.return_, 1) := by decide +kernel
theorem dX11_test_0 : decode cX11_test 0 = .ok (.iconst 1, 1) := by decide +kernel
theorem dX11_test_1 : decode cX11_test 1 = .ok (.istore_n 1, 1) := by decide +kernel
theorem dX11_test_2 : decode cX11_test 2 = .ok (.iload_n 1, 1) := by decide +kernel
theorem dX11_test_3 : decode cX11_test 3 = .ok (.ifCond .eq 107, 3) := by decide +kernel
theorem dX11_test_6 : decode cX11_test 6 = .ok (.aload_n 0, 1) := by decide +kernel
theorem dX11_test_7 : decode cX11_test 7 = .ok (.getfield 224, 3) := by decide +kernel
theorem dX11_test_10 : decode cX11_test 10 = .ok (.ifCond .ne 100, 3) := by decide +kernel
theorem dX11_test_13 : decode cX11_test 13 = .ok (.aload_n 0, 1) := by decide +kernel
theorem dX11_test_14 : decode cX11_test 14 = .ok (.invokevirtual 236, 3) := by decide +kernel
theorem dX11_test_17 : decode cX11_test 17 = .ok (.istore_n 2, 1) := by decide +kernel
theorem dX11_test_18 : decode cX11_test 18 = .ok (.iload_n 2, 1) := by decide +kernel
theorem dX11_test_19 : decode cX11_test 19 = .ok (.bipush 91, 2) := by decide +kernel
theorem dX11_test_21 : decode cX11_test 21 = .ok (.if_icmp .ne 26, 3) := by decide +kernel
theorem dX11_test_24 : decode cX11_test 24 = .ok (.aload_n 0, 1) := by decide +kernel
theorem dX11_test_25 : decode cX11_test 25 = .ok (.bipush 25, 2) := by decide +kernel
theorem dX11_test_27 : decode cX11_test 27 = .ok (.aload_n 0, 1) := by decide +kernel
theorem dX11_test_28 : decode cX11_test 28 = .ok (.getfield 230, 3) := by decide +kernel
theorem dX11_test_31 : decode cX11_test 31 = .ok (.invokevirtual 388, 3) := by decide +kernel
theorem dX11_test_34 : decode cX11_test 34 = .ok (.aload_n 0, 1) := by decide +kernel
theorem dX11_test_35 : decode cX11_test 35 = .ok (.dup, 1) := by decide +kernel
theorem dX11_test_36 : decode cX11_test 36 = .ok (.getfield 230, 3) := by decide +kernel
theorem dX11_test_39 : decode cX11_test 39 = .ok (.iconst 1, 1) := by decide +kernel
theorem dX11_test_40 : decode cX11_test 40 = .ok (.iadd, 1) := by decide +kernel
theorem dX11_test_41 : decode cX11_test 41 = .ok (.putfield 230, 3) := by decide +kernel
theorem dX11_test_44 : decode cX11_test 44 = .ok (.goto (-42), 3) := by decide +kernel
theorem dX11_test_47 : decode cX11_test 47 = .ok (.aload_n 0, 1) := by decide +kernel
theorem dX11_test_48 : decode cX11_test 48 = .ok (.aload_n 0, 1) := by decide +kernel
theorem dX11_test_49 : decode cX11_test 49 = .ok (.getfield 84, 3) := by decide +kernel
theorem dX11_test_52 : decode cX11_test 52 = .ok (.invokevirtual 247, 3) := by decide +kernel
theorem dX11_test_55 : decode cX11_test 55 = .ok (.ifCond .eq 24, 3) := by decide +kernel
theorem dX11_test_58 : decode cX11_test 58 = .ok (.aload_n 0, 1) := by decide +kernel
theorem dX11_test_59 : decode cX11_test 59 = .ok (.bipush 16, 2) := by decide +kernel
theorem dX11_test_61 : decode cX11_test 61 = .ok (.aload_n 0, 1) := by decide +kernel
theorem dX11_test_62 : decode cX11_test 62 = .ok (.getfield 230, 3) := by decide +kernel
theorem dX11_test_65 : decode cX11_test 65 = .ok (.invokevirtual 388, 3) := by decide +kernel
theorem dX11_test_68 : decode cX11_test 68 = .ok (.aload_n 0, 1) := by decide +kernel
theorem dX11_test_69 : decode cX11_test 69 = .ok (.aload_n 0, 1) := by decide +kernel
theorem dX11_test_70 : decode cX11_test 70 = .ok (.getfield 84, 3) := by decide +kernel
theorem dX11_test_73 : decode cX11_test 73 = .ok (.invokevirtual 301, 3) := by decide +kernel
theorem dX11_test_76 : decode cX11_test 76 = .ok (.goto (-74), 3) := by decide +kernel
theorem dX11_test_79 : decode cX11_test 79 = .ok (.aload_n 0, 1) := by decide +kernel
theorem dX11_test_80 : decode cX11_test 80 = .ok (.invokevirtual 409, 3) := by decide +kernel
theorem dX11_test_83 : decode cX11_test 83 = .ok (.aload_n 0, 1) := by decide +kernel
theorem dX11_test_84 : decode cX11_test 84 = .ok (.invokevirtual 412, 3) := by decide +kernel
theorem dX11_test_87 : decode cX11_test 87 = .ok (.aload_n 0, 1) := by decide +kernel
theorem dX11_test_88 : decode cX11_test 88 = .ok (.getfield 224, 3) := by decide +kernel
theorem dX11_test_91 : decode cX11_test 91 = .ok (.ifCond .ne 14, 3) := by decide +kernel
theorem dX11_test_94 : decode cX11_test 94 = .ok (.aload_n 0, 1) := by decide +kernel
theorem dX11_test_95 : decode cX11_test 95 = .ok (.invokevirtual 415, 3) := by decide +kernel
theorem dX11_test_98 : decode cX11_test 98 = .ok (.ifCond .eq 7, 3) := by decide +kernel
theorem dX11_test_101 : decode cX11_test 101 = .ok (.iconst 1, 1) := by decide +kernel
theorem dX11_test_102 : decode cX11_test 102 = .ok (.goto 4, 3) := by decide +kernel
theorem dX11_test_105 : decode cX11_test 105 = .ok (.iconst 0, 1) := by decide +kernel
theorem dX11_test_106 : decode cX11_test 106 = .ok (.istore_n 1, 1) := by decide +kernel
theorem dX11_test_107 : decode cX11_test 107 = .ok (.goto (-105), 3) := by decide +kernel
theorem dX11_test_110 : decode cX11_test 110 = .ok (.aload_n 0, 1) := by decide +kernel
theorem dX11_test_111 : decode cX11_test 111 = .ok (.getfield 224, 3) := by decide +kernel
theorem dX11_test_114 : decode cX11_test 114 = .ok (.ifCond .ne 17, 3) := by decide +kernel
theorem dX11_test_117 : decode cX11_test 117 = .ok (.aload_n 0, 1) := by decide +kernel
theorem dX11_test_118 : decode cX11_test 118 = .ok (.getfield 373, 3) := by decide +kernel
theorem dX11_test_121 : decode cX11_test 121 = .ok (.ifCond .le 10, 3) := by decide +kernel
theorem dX11_test_124 : decode cX11_test 124 = .ok (.aload_n 0, 1) := by decide +kernel
theorem dX11_test_125 : decode cX11_test 125 = .ok (.invokevirtual 385, 3) := by decide +kernel
theorem dX11_test_128 : decode cX11_test 128 = .ok (.goto (-18), 3) := by decide +kernel
theorem dX11_test_131 : decode cX11_test 131 = .ok (.return_, 1) := by decide +kernel
theorem dX11_goesOnTest_0 : decode cX11_goesOnTest 0 = .ok (.aload_n 0, 1) := by decide +kernel
theorem dX11_goesOnTest_1 : decode cX11_goesOnTest 1 = .ok (.getfield 224, 3) := by decide +kernel
theorem dX11_goesOnTest_4 : decode cX11_goesOnTest 4 = .ok (.ifCond .ne 72, 3) := by decide +kernel
theorem dX11_goesOnTest_7 : decode cX11_goesOnTest 7 = .ok (.aload_n 0, 1) := by decide +kernel
theorem dX11_goesOnTest_8 : decode cX11_goesOnTest 8 = .ok (.invokevirtual 236, 3) := by decide +kernel
theorem dX11_goesOnTest_11 : decode cX11_goesOnTest 11 = .ok (.bipush 93, 2) := by decide +kernel
theorem dX11_goesOnTest_13 : decode cX11_goesOnTest 13 = .ok (.if_icmp .ne 63, 3) := by decide +kernel
theorem dX11_goesOnTest_16 : decode cX11_goesOnTest 16 = .ok (.aload_n 0, 1) := by decide +kernel
theorem dX11_goesOnTest_17 : decode cX11_goesOnTest 17 = .ok (.invokevirtual 418, 3) := by decide +kernel
theorem dX11_goesOnTest_20 : decode cX11_goesOnTest 20 = .ok (.ifCond .eq 56, 3) := by decide +kernel
theorem dX11_goesOnTest_23 : decode cX11_goesOnTest 23 = .ok (.aload_n 0, 1) := by decide +kernel
theorem dX11_goesOnTest_24 : decode cX11_goesOnTest 24 = .ok (.dup, 1) := by decide +kernel
theorem dX11_goesOnTest_25 : decode cX11_goesOnTest 25 = .ok (.getfield 230, 3) := by decide +kernel
theorem dX11_goesOnTest_28 : decode cX11_goesOnTest 28 = .ok (.iconst 1, 1) := by decide +kernel
theorem dX11_goesOnTest_29 : decode cX11_goesOnTest 29 = .ok (.iadd, 1) := by decide +kernel
theorem dX11_goesOnTest_30 : decode cX11_goesOnTest 30 = .ok (.putfield 230, 3) := by decide +kernel
theorem dX11_goesOnTest_33 : decode cX11_goesOnTest 33 = .ok (.aload_n 0, 1) := by decide +kernel
theorem dX11_goesOnTest_34 : decode cX11_goesOnTest 34 = .ok (.bipush 25, 2) := by decide +kernel
theorem dX11_goesOnTest_36 : decode cX11_goesOnTest 36 = .ok (.invokevirtual 397, 3) := by decide +kernel
theorem dX11_goesOnTest_39 : decode cX11_goesOnTest 39 = .ok (.ifCond .ne 10, 3) := by decide +kernel
theorem dX11_goesOnTest_42 : decode cX11_goesOnTest 42 = .ok (.aload_n 0, 1) := by decide +kernel
theorem dX11_goesOnTest_43 : decode cX11_goesOnTest 43 = .ok (.invokevirtual 385, 3) := by decide +kernel
theorem dX11_goesOnTest_46 : decode cX11_goesOnTest 46 = .ok (.goto (-13), 3) := by decide +kernel
theorem dX11_goesOnTest_49 : decode cX11_goesOnTest 49 = .ok (.aload_n 0, 1) := by decide +kernel
theorem dX11_goesOnTest_50 : decode cX11_goesOnTest 50 = .ok (.dup, 1) := by decide +kernel
theorem dX11_goesOnTest_51 : decode cX11_goesOnTest 51 = .ok (.getfield 373, 3) := by decide +kernel
theorem dX11_goesOnTest_54 : decode cX11_goesOnTest 54 = .ok (.iconst 1, 1) := by decide +kernel
theorem dX11_goesOnTest_55 : decode cX11_goesOnTest 55 = .ok (.isub, 1) := by decide +kernel
theorem dX11_goesOnTest_56 : decode cX11_goesOnTest 56 = .ok (.putfield 373, 3) := by decide +kernel
theorem dX11_goesOnTest_59 : decode cX11_goesOnTest 59 = .ok (.aload_n 0, 1) := by decide +kernel
theorem dX11_goesOnTest_60 : decode cX11_goesOnTest 60 = .ok (.dup, 1) := by decide +kernel
theorem dX11_goesOnTest_61 : decode cX11_goesOnTest 61 = .ok (.getfield 370, 3) := by decide +kernel
theorem dX11_goesOnTest_64 : decode cX11_goesOnTest 64 = .ok (.iconst 1, 1) := by decide +kernel
theorem dX11_goesOnTest_65 : decode cX11_goesOnTest 65 = .ok (.isub, 1) := by decide +kernel
theorem dX11_goesOnTest_66 : decode cX11_goesOnTest 66 = .ok (.putfield 370, 3) := by decide +kernel
theorem dX11_goesOnTest_69 : decode cX11_goesOnTest 69 = .ok (.aload_n 0, 1) := by decide +kernel
theorem dX11_goesOnTest_70 : decode cX11_goesOnTest 70 = .ok (.invokevirtual 412, 3) := by decide +kernel
theorem dX11_goesOnTest_73 : decode cX11_goesOnTest 73 = .ok (.goto (-73), 3) := by decide +kernel
theorem dX11_goesOnTest_76 : decode cX11_goesOnTest 76 = .ok (.aload_n 0, 1) := by decide +kernel
theorem dX11_goesOnTest_77 : decode cX11_goesOnTest 77 = .ok (.aload_n 0, 1) := by decide +kernel
theorem dX11_goesOnTest_78 : decode cX11_goesOnTest 78 = .ok (.getfield 81, 3) := by decide +kernel
theorem dX11_goesOnTest_81 : decode cX11_goesOnTest 81 = .ok (.invokevirtual 251, 3) := by decide +kernel
theorem dX11_goesOnTest_84 : decode cX11_goesOnTest 84 = .ok (.ifCond .eq 42, 3) := by decide +kernel
theorem dX11_goesOnTest_87 : decode cX11_goesOnTest 87 = .ok (.aload_n 0, 1) := by decide +kernel
theorem dX11_goesOnTest_88 : decode cX11_goesOnTest 88 = .ok (.bipush 14, 2) := by decide +kernel
theorem dX11_goesOnTest_90 : decode cX11_goesOnTest 90 = .ok (.invokevirtual 397, 3) := by decide +kernel
theorem dX11_goesOnTest_93 : decode cX11_goesOnTest 93 = .ok (.ifCond .eq 10, 3) := by decide +kernel
theorem dX11_goesOnTest_96 : decode cX11_goesOnTest 96 = .ok (.aload_n 0, 1) := by decide +kernel
theorem dX11_goesOnTest_97 : decode cX11_goesOnTest 97 = .ok (.invokevirtual 385, 3) := by decide +kernel
theorem dX11_goesOnTest_100 : decode cX11_goesOnTest 100 = .ok (.goto (-13), 3) := by decide +kernel
theorem dX11_goesOnTest_103 : decode cX11_goesOnTest 103 = .ok (.aload_n 0, 1) := by decide +kernel
theorem dX11_goesOnTest_104 : decode cX11_goesOnTest 104 = .ok (.getfield 148, 3) := by decide +kernel
theorem dX11_goesOnTest_107 : decode cX11_goesOnTest 107 = .ok (.aload_n 0, 1) := by decide +kernel
theorem dX11_goesOnTest_108 : decode cX11_goesOnTest 108 = .ok (.getfield 373, 3) := by decide +kernel
theorem dX11_goesOnTest_111 : decode cX11_goesOnTest 111 = .ok (.bipush 14, 2) := by decide +kernel
theorem dX11_goesOnTest_113 : decode cX11_goesOnTest 113 = .ok (.iastore, 1) := by decide +kernel
theorem dX11_goesOnTest_114 : decode cX11_goesOnTest 114 = .ok (.aload_n 0, 1) := by decide +kernel
theorem dX11_goesOnTest_115 : decode cX11_goesOnTest 115 = .ok (.dup, 1) := by decide +kernel
theorem dX11_goesOnTest_116 : decode cX11_goesOnTest 116 = .ok (.getfield 373, 3) := by decide +kernel
theorem dX11_goesOnTest_119 : decode cX11_goesOnTest 119 = .ok (.iconst 1, 1) := by decide +kernel
theorem dX11_goesOnTest_120 : decode cX11_goesOnTest 120 = .ok (.iadd, 1) := by decide +kernel
theorem dX11_goesOnTest_121 : decode cX11_goesOnTest 121 = .ok (.putfield 373, 3) := by decide +kernel
theorem dX11_goesOnTest_124 : decode cX11_goesOnTest 124 = .ok (.iconst 1, 1) := by decide +kernel
theorem dX11_goesOnTest_125 : decode cX11_goesOnTest 125 = .ok (.ireturn, 1) := by decide +kernel
theorem dX11_goesOnTest_126 : decode cX11_goesOnTest 126 = .ok (.aload_n 0, 1) := by decide +kernel
theorem dX11_goesOnTest_127 : decode cX11_goesOnTest 127 = .ok (.aload_n 0, 1) := by decide +kernel
theorem dX11_goesOnTest_128 : decode cX11_goesOnTest 128 = .ok (.getfield 78, 3) := by decide +kernel
theorem dX11_goesOnTest_131 : decode cX11_goesOnTest 131 = .ok (.invokevirtual 251, 3) := by decide +kernel
theorem dX11_goesOnTest_134 : decode cX11_goesOnTest 134 = .ok (.ifCond .eq 51, 3) := by decide +kernel
theorem dX11_goesOnTest_137 : decode cX11_goesOnTest 137 = .ok (.aload_n 0, 1) := by decide +kernel
theorem dX11_goesOnTest_138 : decode cX11_goesOnTest 138 = .ok (.bipush 14, 2) := by decide +kernel
theorem dX11_goesOnTest_140 : decode cX11_goesOnTest 140 = .ok (.invokevirtual 397, 3) := by decide +kernel
theorem dX11_goesOnTest_143 : decode cX11_goesOnTest 143 = .ok (.ifCond .ne 12, 3) := by decide +kernel
theorem dX11_goesOnTest_146 : decode cX11_goesOnTest 146 = .ok (.aload_n 0, 1) := by decide +kernel
theorem dX11_goesOnTest_147 : decode cX11_goesOnTest 147 = .ok (.bipush 15, 2) := by decide +kernel
theorem dX11_goesOnTest_149 : decode cX11_goesOnTest 149 = .ok (.invokevirtual 397, 3) := by decide +kernel
theorem dX11_goesOnTest_152 : decode cX11_goesOnTest 152 = .ok (.ifCond .eq 10, 3) := by decide +kernel
theorem dX11_goesOnTest_155 : decode cX11_goesOnTest 155 = .ok (.aload_n 0, 1) := by decide +kernel
theorem dX11_goesOnTest_156 : decode cX11_goesOnTest 156 = .ok (.invokevirtual 385, 3) := by decide +kernel
theorem dX11_goesOnTest_159 : decode cX11_goesOnTest 159 = .ok (.goto (-22), 3) := by decide +kernel
theorem dX11_goesOnTest_162 : decode cX11_goesOnTest 162 = .ok (.aload_n 0, 1) := by decide +kernel
theorem dX11_goesOnTest_163 : decode cX11_goesOnTest 163 = .ok (.getfield 148, 3) := by decide +kernel
theorem dX11_goesOnTest_166 : decode cX11_goesOnTest 166 = .ok (.aload_n 0, 1) := by decide +kernel
theorem dX11_goesOnTest_167 : decode cX11_goesOnTest 167 = .ok (.getfield 373, 3) := by decide +kernel
theorem dX11_goesOnTest_170 : decode cX11_goesOnTest 170 = .ok (.bipush 15, 2) := by decide +kernel
theorem dX11_goesOnTest_172 : decode cX11_goesOnTest 172 = .ok (.iastore, 1) := by decide +kernel
theorem dX11_goesOnTest_173 : decode cX11_goesOnTest 173 = .ok (.aload_n 0, 1) := by decide +kernel
theorem dX11_goesOnTest_174 : decode cX11_goesOnTest 174 = .ok (.dup, 1) := by decide +kernel
theorem dX11_goesOnTest_175 : decode cX11_goesOnTest 175 = .ok (.getfield 373, 3) := by decide +kernel
theorem dX11_goesOnTest_178 : decode cX11_goesOnTest 178 = .ok (.iconst 1, 1) := by decide +kernel
theorem dX11_goesOnTest_179 : decode cX11_goesOnTest 179 = .ok (.iadd, 1) := by decide +kernel
theorem dX11_goesOnTest_180 : decode cX11_goesOnTest 180 = .ok (.putfield 373, 3) := by decide +kernel
theorem dX11_goesOnTest_183 : decode cX11_goesOnTest 183 = .ok (.iconst 1, 1) := by decide +kernel
theorem dX11_goesOnTest_184 : decode cX11_goesOnTest 184 = .ok (.ireturn, 1) := by decide +kernel
theorem dX11_goesOnTest_185 : decode cX11_goesOnTest 185 = .ok (.aload_n 0, 1) := by decide +kernel
theorem dX11_goesOnTest_186 : decode cX11_goesOnTest 186 = .ok (.getfield 224, 3) := by decide +kernel
theorem dX11_goesOnTest_189 : decode cX11_goesOnTest 189 = .ok (.ifCond .ne 19, 3) := by decide +kernel
theorem dX11_goesOnTest_192 : decode cX11_goesOnTest 192 = .ok (.aload_n 0, 1) := by decide +kernel
theorem dX11_goesOnTest_193 : decode cX11_goesOnTest 193 = .ok (.invokevirtual 418, 3) := by decide +kernel
theorem dX11_goesOnTest_196 : decode cX11_goesOnTest 196 = .ok (.ifCond .eq 12, 3) := by decide +kernel
theorem dX11_goesOnTest_199 : decode cX11_goesOnTest 199 = .ok (.aload_n 0, 1) := by decide +kernel
theorem dX11_goesOnTest_200 : decode cX11_goesOnTest 200 = .ok (.iconst 1, 1) := by decide +kernel
theorem dX11_goesOnTest_201 : decode cX11_goesOnTest 201 = .ok (.aload_n 0, 1) := by decide +kernel
theorem dX11_goesOnTest_202 : decode cX11_goesOnTest 202 = .ok (.getfield 230, 3) := by decide +kernel
theorem dX11_goesOnTest_205 : decode cX11_goesOnTest 205 = .ok (.invokevirtual 254, 3) := by decide +kernel
theorem dX11_goesOnTest_208 : decode cX11_goesOnTest 208 = .ok (.iconst 0, 1) := by decide +kernel
theorem dX11_goesOnTest_209 : decode cX11_goesOnTest 209 = .ok (.ireturn, 1) := by decide +kernel
theorem dX11_worksTold_0 : decode cX11_worksTold 0 = .ok (.aload_n 0, 1) := by decide +kernel
theorem dX11_worksTold_1 : decode cX11_worksTold 1 = .ok (.aload_n 0, 1) := by decide +kernel
theorem dX11_worksTold_2 : decode cX11_worksTold 2 = .ok (.getfield 151, 3) := by decide +kernel
theorem dX11_worksTold_5 : decode cX11_worksTold 5 = .ok (.iconst 1, 1) := by decide +kernel
theorem dX11_worksTold_6 : decode cX11_worksTold 6 = .ok (.iaload, 1) := by decide +kernel
theorem dX11_worksTold_7 : decode cX11_worksTold 7 = .ok (.bipush 12, 2) := by decide +kernel
theorem dX11_worksTold_9 : decode cX11_worksTold 9 = .ok (.iload_n 1, 1) := by decide +kernel
theorem dX11_worksTold_10 : decode cX11_worksTold 10 = .ok (.invokevirtual 293, 3) := by decide +kernel
theorem dX11_worksTold_13 : decode cX11_worksTold 13 = .ok (.ifCond .eq 4, 3) := by decide +kernel
theorem dX11_worksTold_16 : decode cX11_worksTold 16 = .ok (.return_, 1) := by decide +kernel
theorem dX11_worksTold_17 : decode cX11_worksTold 17 = .ok (.bipush 12, 2) := by decide +kernel
theorem dX11_worksTold_19 : decode cX11_worksTold 19 = .ok (.aload_n 0, 1) := by decide +kernel
theorem dX11_worksTold_20 : decode cX11_worksTold 20 = .ok (.getfield 151, 3) := by decide +kernel
theorem dX11_worksTold_23 : decode cX11_worksTold 23 = .ok (.iconst 1, 1) := by decide +kernel
theorem dX11_worksTold_24 : decode cX11_worksTold 24 = .ok (.iaload, 1) := by decide +kernel
theorem dX11_worksTold_25 : decode cX11_worksTold 25 = .ok (.iadd, 1) := by decide +kernel
theorem dX11_worksTold_26 : decode cX11_worksTold 26 = .ok (.istore_n 2, 1) := by decide +kernel
theorem dX11_worksTold_27 : decode cX11_worksTold 27 = .ok (.aload_n 0, 1) := by decide +kernel
theorem dX11_worksTold_28 : decode cX11_worksTold 28 = .ok (.getfield 154, 3) := by decide +kernel
theorem dX11_worksTold_31 : decode cX11_worksTold 31 = .ok (.iload_n 2, 1) := by decide +kernel
theorem dX11_worksTold_32 : decode cX11_worksTold 32 = .ok (.aload_n 0, 1) := by decide +kernel
theorem dX11_worksTold_33 : decode cX11_worksTold 33 = .ok (.iconst 0, 1) := by decide +kernel
theorem dX11_worksTold_34 : decode cX11_worksTold 34 = .ok (.invokevirtual 309, 3) := by decide +kernel
theorem dX11_worksTold_37 : decode cX11_worksTold 37 = .ok (.iastore, 1) := by decide +kernel
theorem dX11_worksTold_38 : decode cX11_worksTold 38 = .ok (.aload_n 0, 1) := by decide +kernel
theorem dX11_worksTold_39 : decode cX11_worksTold 39 = .ok (.getfield 157, 3) := by decide +kernel
theorem dX11_worksTold_42 : decode cX11_worksTold 42 = .ok (.iload_n 2, 1) := by decide +kernel
theorem dX11_worksTold_43 : decode cX11_worksTold 43 = .ok (.aload_n 0, 1) := by decide +kernel
theorem dX11_worksTold_44 : decode cX11_worksTold 44 = .ok (.getfield 282, 3) := by decide +kernel
theorem dX11_worksTold_47 : decode cX11_worksTold 47 = .ok (.iastore, 1) := by decide +kernel
theorem dX11_worksTold_48 : decode cX11_worksTold 48 = .ok (.aload_n 0, 1) := by decide +kernel
theorem dX11_worksTold_49 : decode cX11_worksTold 49 = .ok (.iconst 0, 1) := by decide +kernel
theorem dX11_worksTold_50 : decode cX11_worksTold 50 = .ok (.putfield 373, 3) := by decide +kernel
theorem dX11_worksTold_53 : decode cX11_worksTold 53 = .ok (.aload_n 0, 1) := by decide +kernel
theorem dX11_worksTold_54 : decode cX11_worksTold 54 = .ok (.iconst 0, 1) := by decide +kernel
theorem dX11_worksTold_55 : decode cX11_worksTold 55 = .ok (.putfield 370, 3) := by decide +kernel
theorem dX11_worksTold_58 : decode cX11_worksTold 58 = .ok (.aload_n 0, 1) := by decide +kernel
theorem dX11_worksTold_59 : decode cX11_worksTold 59 = .ok (.iconst 0, 1) := by decide +kernel
theorem dX11_worksTold_60 : decode cX11_worksTold 60 = .ok (.putfield 379, 3) := by decide +kernel
theorem dX11_worksTold_63 : decode cX11_worksTold 63 = .ok (.aload_n 0, 1) := by decide +kernel
theorem dX11_worksTold_64 : decode cX11_worksTold 64 = .ok (.getfield 224, 3) := by decide +kernel
theorem dX11_worksTold_67 : decode cX11_worksTold 67 = .ok (.ifCond .ne 7, 3) := by decide +kernel
theorem dX11_worksTold_70 : decode cX11_worksTold 70 = .ok (.aload_n 0, 1) := by decide +kernel
theorem dX11_worksTold_71 : decode cX11_worksTold 71 = .ok (.invokevirtual 406, 3) := by decide +kernel
theorem dX11_worksTold_74 : decode cX11_worksTold 74 = .ok (.aload_n 0, 1) := by decide +kernel
theorem dX11_worksTold_75 : decode cX11_worksTold 75 = .ok (.getfield 160, 3) := by decide +kernel
theorem dX11_worksTold_78 : decode cX11_worksTold 78 = .ok (.iload_n 2, 1) := by decide +kernel
theorem dX11_worksTold_79 : decode cX11_worksTold 79 = .ok (.aload_n 0, 1) := by decide +kernel
theorem dX11_worksTold_80 : decode cX11_worksTold 80 = .ok (.getfield 282, 3) := by decide +kernel
theorem dX11_worksTold_83 : decode cX11_worksTold 83 = .ok (.iastore, 1) := by decide +kernel
theorem dX11_worksTold_84 : decode cX11_worksTold 84 = .ok (.aload_n 0, 1) := by decide +kernel
theorem dX11_worksTold_85 : decode cX11_worksTold 85 = .ok (.aload_n 0, 1) := by decide +kernel
theorem dX11_worksTold_86 : decode cX11_worksTold 86 = .ok (.getfield 75, 3) := by decide +kernel
theorem dX11_worksTold_89 : decode cX11_worksTold 89 = .ok (.invokevirtual 301, 3) := by decide +kernel
theorem dX11_worksTold_92 : decode cX11_worksTold 92 = .ok (.aload_n 0, 1) := by decide +kernel
theorem dX11_worksTold_93 : decode cX11_worksTold 93 = .ok (.iconst 0, 1) := by decide +kernel
theorem dX11_worksTold_94 : decode cX11_worksTold 94 = .ok (.putfield 373, 3) := by decide +kernel
theorem dX11_worksTold_97 : decode cX11_worksTold 97 = .ok (.aload_n 0, 1) := by decide +kernel
theorem dX11_worksTold_98 : decode cX11_worksTold 98 = .ok (.iconst 0, 1) := by decide +kernel
theorem dX11_worksTold_99 : decode cX11_worksTold 99 = .ok (.putfield 370, 3) := by decide +kernel
theorem dX11_worksTold_102 : decode cX11_worksTold 102 = .ok (.aload_n 0, 1) := by decide +kernel
theorem dX11_worksTold_103 : decode cX11_worksTold 103 = .ok (.iconst 0, 1) := by decide +kernel
theorem dX11_worksTold_104 : decode cX11_worksTold 104 = .ok (.putfield 379, 3) := by decide +kernel
theorem dX11_worksTold_107 : decode cX11_worksTold 107 = .ok (.aload_n 0, 1) := by decide +kernel
theorem dX11_worksTold_108 : decode cX11_worksTold 108 = .ok (.getfield 224, 3) := by decide +kernel
theorem dX11_worksTold_111 : decode cX11_worksTold 111 = .ok (.ifCond .ne 7, 3) := by decide +kernel
theorem dX11_worksTold_114 : decode cX11_worksTold 114 = .ok (.aload_n 0, 1) := by decide +kernel
theorem dX11_worksTold_115 : decode cX11_worksTold 115 = .ok (.invokevirtual 421, 3) := by decide +kernel
theorem dX11_worksTold_118 : decode cX11_worksTold 118 = .ok (.aload_n 0, 1) := by decide +kernel
theorem dX11_worksTold_119 : decode cX11_worksTold 119 = .ok (.getfield 163, 3) := by decide +kernel
theorem dX11_worksTold_122 : decode cX11_worksTold 122 = .ok (.iload_n 2, 1) := by decide +kernel
theorem dX11_worksTold_123 : decode cX11_worksTold 123 = .ok (.aload_n 0, 1) := by decide +kernel
theorem dX11_worksTold_124 : decode cX11_worksTold 124 = .ok (.getfield 282, 3) := by decide +kernel
theorem dX11_worksTold_127 : decode cX11_worksTold 127 = .ok (.iastore, 1) := by decide +kernel
theorem dX11_worksTold_128 : decode cX11_worksTold 128 = .ok (.aload_n 0, 1) := by decide +kernel
theorem dX11_worksTold_129 : decode cX11_worksTold 129 = .ok (.getfield 151, 3) := by decide +kernel
theorem dX11_worksTold_132 : decode cX11_worksTold 132 = .ok (.iconst 1, 1) := by decide +kernel
theorem dX11_worksTold_133 : decode cX11_worksTold 133 = .ok (.dup2, 1) := by decide +kernel
theorem dX11_worksTold_134 : decode cX11_worksTold 134 = .ok (.iaload, 1) := by decide +kernel
theorem dX11_worksTold_135 : decode cX11_worksTold 135 = .ok (.iconst 1, 1) := by decide +kernel
theorem dX11_worksTold_136 : decode cX11_worksTold 136 = .ok (.iadd, 1) := by decide +kernel
theorem dX11_worksTold_137 : decode cX11_worksTold 137 = .ok (.iastore, 1) := by decide +kernel
theorem dX11_worksTold_138 : decode cX11_worksTold 138 = .ok (.return_, 1) := by decide +kernel
theorem dX11_fault_0 : decode cX11_fault 0 = .ok (.iload_n 1, 1) := by decide +kernel
theorem dX11_fault_1 : decode cX11_fault 1 = .ok (.ifCond .ne 10, 3) := by decide +kernel
theorem dX11_fault_4 : decode cX11_fault 4 = .ok (.aload_n 0, 1) := by decide +kernel
theorem dX11_fault_5 : decode cX11_fault 5 = .ok (.getfield 349, 3) := by decide +kernel
theorem dX11_fault_8 : decode cX11_fault 8 = .ok (.goto 16, 3) := by decide +kernel
theorem dX11_fault_11 : decode cX11_fault 11 = .ok (.iload_n 1, 1) := by decide +kernel
theorem dX11_fault_12 : decode cX11_fault 12 = .ok (.iconst 1, 1) := by decide +kernel
theorem dX11_fault_13 : decode cX11_fault 13 = .ok (.if_icmp .ne 10, 3) := by decide +kernel
theorem dX11_fault_16 : decode cX11_fault 16 = .ok (.aload_n 0, 1) := by decide +kernel
