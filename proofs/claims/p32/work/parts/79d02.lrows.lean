theorem dL_follows_762 : decode cL_follows 762 = .ok (.iload 9, 2) := by decide +kernel
theorem dL_follows_764 : decode cL_follows 764 = .ok (.if_icmp .ne 32, 3) := by decide +kernel
theorem dL_follows_767 : decode cL_follows 767 = .ok (.aload_n 0, 1) := by decide +kernel
theorem dL_follows_768 : decode cL_follows 768 = .ok (.invokestatic 203, 3) := by decide +kernel
theorem dL_follows_771 : decode cL_follows 771 = .ok (.lconst 0, 1) := by decide +kernel
theorem dL_follows_772 : decode cL_follows 772 = .ok (.lcmp, 1) := by decide +kernel
theorem dL_follows_773 : decode cL_follows 773 = .ok (.ifCond .lt 23, 3) := by decide +kernel
theorem dL_follows_776 : decode cL_follows 776 = .ok (.aload_n 0, 1) := by decide +kernel
theorem dL_follows_777 : decode cL_follows 777 = .ok (.invokestatic 114, 3) := by decide +kernel
theorem dL_follows_780 : decode cL_follows 780 = .ok (.lload_n 2, 1) := by decide +kernel
theorem dL_follows_781 : decode cL_follows 781 = .ok (.lcmp, 1) := by decide +kernel
theorem dL_follows_782 : decode cL_follows 782 = .ok (.ifCond .ne 14, 3) := by decide +kernel
theorem dL_follows_785 : decode cL_follows 785 = .ok (.aload_n 0, 1) := by decide +kernel
theorem dL_follows_786 : decode cL_follows 786 = .ok (.invokevirtual 208, 3) := by decide +kernel
theorem dL_follows_789 : decode cL_follows 789 = .ok (.ifCond .lt 7, 3) := by decide +kernel
theorem dL_follows_792 : decode cL_follows 792 = .ok (.iconst 1, 1) := by decide +kernel
theorem dL_follows_793 : decode cL_follows 793 = .ok (.goto 4, 3) := by decide +kernel
theorem dL_follows_796 : decode cL_follows 796 = .ok (.iconst 0, 1) := by decide +kernel
theorem dL_follows_797 : decode cL_follows 797 = .ok (.istore 5, 2) := by decide +kernel
theorem dL_follows_799 : decode cL_follows 799 = .ok (.iload 5, 2) := by decide +kernel
theorem dL_follows_801 : decode cL_follows 801 = .ok (.ifCond .eq 39, 3) := by decide +kernel
theorem dL_follows_804 : decode cL_follows 804 = .ok (.aload_n 0, 1) := by decide +kernel
theorem dL_follows_805 : decode cL_follows 805 = .ok (.iconst 1, 1) := by decide +kernel
theorem dL_follows_806 : decode cL_follows 806 = .ok (.invokestatic 154, 3) := by decide +kernel
theorem dL_follows_809 : decode cL_follows 809 = .ok (.iload 4, 2) := by decide +kernel
theorem dL_follows_811 : decode cL_follows 811 = .ok (.i2l, 1) := by decide +kernel
theorem dL_follows_812 : decode cL_follows 812 = .ok (.lcmp, 1) := by decide +kernel
theorem dL_follows_813 : decode cL_follows 813 = .ok (.ifCond .ne 27, 3) := by decide +kernel
theorem dL_follows_816 : decode cL_follows 816 = .ok (.aload_n 0, 1) := by decide +kernel
theorem dL_follows_817 : decode cL_follows 817 = .ok (.invokestatic 114, 3) := by decide +kernel
theorem dL_follows_820 : decode cL_follows 820 = .ok (.lload_n 2, 1) := by decide +kernel
theorem dL_follows_821 : decode cL_follows 821 = .ok (.lcmp, 1) := by decide +kernel
theorem dL_follows_822 : decode cL_follows 822 = .ok (.ifCond .ne 18, 3) := by decide +kernel
theorem dL_follows_825 : decode cL_follows 825 = .ok (.aload_n 0, 1) := by decide +kernel
theorem dL_follows_826 : decode cL_follows 826 = .ok (.invokestatic 203, 3) := by decide +kernel
theorem dL_follows_829 : decode cL_follows 829 = .ok (.ldc2_w 21, 3) := by decide +kernel
theorem dL_follows_832 : decode cL_follows 832 = .ok (.lcmp, 1) := by decide +kernel
theorem dL_follows_833 : decode cL_follows 833 = .ok (.ifCond .ne 7, 3) := by decide +kernel
theorem dL_follows_836 : decode cL_follows 836 = .ok (.iconst 1, 1) := by decide +kernel
theorem dL_follows_837 : decode cL_follows 837 = .ok (.goto 4, 3) := by decide +kernel
theorem dL_follows_840 : decode cL_follows 840 = .ok (.iconst 0, 1) := by decide +kernel
theorem dL_follows_841 : decode cL_follows 841 = .ok (.ireturn, 1) := by decide +kernel
theorem dL_alike_0 : decode cL_alike 0 = .ok (.aload_n 0, 1) := by decide +kernel
theorem dL_alike_1 : decode cL_alike 1 = .ok (.invokestatic 114, 3) := by decide +kernel
theorem dL_alike_4 : decode cL_alike 4 = .ok (.aload_n 1, 1) := by decide +kernel
theorem dL_alike_5 : decode cL_alike 5 = .ok (.invokestatic 114, 3) := by decide +kernel
theorem dL_alike_8 : decode cL_alike 8 = .ok (.lcmp, 1) := by decide +kernel
theorem dL_alike_9 : decode cL_alike 9 = .ok (.ifCond .ne 119, 3) := by decide +kernel
theorem dL_alike_12 : decode cL_alike 12 = .ok (.aload_n 0, 1) := by decide +kernel
theorem dL_alike_13 : decode cL_alike 13 = .ok (.invokevirtual 197, 3) := by decide +kernel
theorem dL_alike_16 : decode cL_alike 16 = .ok (.aload_n 1, 1) := by decide +kernel
theorem dL_alike_17 : decode cL_alike 17 = .ok (.invokevirtual 197, 3) := by decide +kernel
theorem dL_alike_20 : decode cL_alike 20 = .ok (.if_icmp .ne 108, 3) := by decide +kernel
theorem dL_alike_23 : decode cL_alike 23 = .ok (.aload_n 0, 1) := by decide +kernel
theorem dL_alike_24 : decode cL_alike 24 = .ok (.invokevirtual 200, 3) := by decide +kernel
theorem dL_alike_27 : decode cL_alike 27 = .ok (.aload_n 1, 1) := by decide +kernel
theorem dL_alike_28 : decode cL_alike 28 = .ok (.invokevirtual 200, 3) := by decide +kernel
theorem dL_alike_31 : decode cL_alike 31 = .ok (.if_icmp .ne 97, 3) := by decide +kernel
theorem dL_alike_34 : decode cL_alike 34 = .ok (.aload_n 0, 1) := by decide +kernel
theorem dL_alike_35 : decode cL_alike 35 = .ok (.iload_n 2, 1) := by decide +kernel
theorem dL_alike_36 : decode cL_alike 36 = .ok (.iconst 5, 1) := by decide +kernel
theorem dL_alike_37 : decode cL_alike 37 = .ok (.irem, 1) := by decide +kernel
theorem dL_alike_38 : decode cL_alike 38 = .ok (.invokestatic 132, 3) := by decide +kernel
theorem dL_alike_41 : decode cL_alike 41 = .ok (.aload_n 1, 1) := by decide +kernel
theorem dL_alike_42 : decode cL_alike 42 = .ok (.iload_n 2, 1) := by decide +kernel
theorem dL_alike_43 : decode cL_alike 43 = .ok (.iconst 5, 1) := by decide +kernel
theorem dL_alike_44 : decode cL_alike 44 = .ok (.irem, 1) := by decide +kernel
theorem dL_alike_45 : decode cL_alike 45 = .ok (.invokestatic 132, 3) := by decide +kernel
theorem dL_alike_48 : decode cL_alike 48 = .ok (.lcmp, 1) := by decide +kernel
theorem dL_alike_49 : decode cL_alike 49 = .ok (.ifCond .ne 79, 3) := by decide +kernel
theorem dL_alike_52 : decode cL_alike 52 = .ok (.aload_n 0, 1) := by decide +kernel
theorem dL_alike_53 : decode cL_alike 53 = .ok (.iload_n 2, 1) := by decide +kernel
theorem dL_alike_54 : decode cL_alike 54 = .ok (.bipush 7, 2) := by decide +kernel
theorem dL_alike_56 : decode cL_alike 56 = .ok (.irem, 1) := by decide +kernel
theorem dL_alike_57 : decode cL_alike 57 = .ok (.invokestatic 130, 3) := by decide +kernel
theorem dL_alike_60 : decode cL_alike 60 = .ok (.aload_n 1, 1) := by decide +kernel
theorem dL_alike_61 : decode cL_alike 61 = .ok (.iload_n 2, 1) := by decide +kernel
theorem dL_alike_62 : decode cL_alike 62 = .ok (.bipush 7, 2) := by decide +kernel
theorem dL_alike_64 : decode cL_alike 64 = .ok (.irem, 1) := by decide +kernel
theorem dL_alike_65 : decode cL_alike 65 = .ok (.invokestatic 130, 3) := by decide +kernel
theorem dL_alike_68 : decode cL_alike 68 = .ok (.lcmp, 1) := by decide +kernel
theorem dL_alike_69 : decode cL_alike 69 = .ok (.ifCond .ne 59, 3) := by decide +kernel
theorem dL_alike_72 : decode cL_alike 72 = .ok (.aload_n 0, 1) := by decide +kernel
theorem dL_alike_73 : decode cL_alike 73 = .ok (.iload_n 2, 1) := by decide +kernel
theorem dL_alike_74 : decode cL_alike 74 = .ok (.i2l, 1) := by decide +kernel
theorem dL_alike_75 : decode cL_alike 75 = .ok (.bipush 20, 2) := by decide +kernel
theorem dL_alike_77 : decode cL_alike 77 = .ok (.invokestatic 149, 3) := by decide +kernel
theorem dL_alike_80 : decode cL_alike 80 = .ok (.aload_n 1, 1) := by decide +kernel
theorem dL_alike_81 : decode cL_alike 81 = .ok (.iload_n 2, 1) := by decide +kernel
theorem dL_alike_82 : decode cL_alike 82 = .ok (.i2l, 1) := by decide +kernel
theorem dL_alike_83 : decode cL_alike 83 = .ok (.bipush 20, 2) := by decide +kernel
theorem dL_alike_85 : decode cL_alike 85 = .ok (.invokestatic 149, 3) := by decide +kernel
theorem dL_alike_88 : decode cL_alike 88 = .ok (.lcmp, 1) := by decide +kernel
theorem dL_alike_89 : decode cL_alike 89 = .ok (.ifCond .ne 39, 3) := by decide +kernel
theorem dL_alike_92 : decode cL_alike 92 = .ok (.aload_n 0, 1) := by decide +kernel
theorem dL_alike_93 : decode cL_alike 93 = .ok (.iconst 4, 1) := by decide +kernel
theorem dL_alike_94 : decode cL_alike 94 = .ok (.ldc2_w 217, 3) := by decide +kernel
theorem dL_alike_97 : decode cL_alike 97 = .ok (.iload_n 2, 1) := by decide +kernel
theorem dL_alike_98 : decode cL_alike 98 = .ok (.bipush 20, 2) := by decide +kernel
theorem dL_alike_100 : decode cL_alike 100 = .ok (.irem, 1) := by decide +kernel
theorem dL_alike_101 : decode cL_alike 101 = .ok (.i2l, 1) := by decide +kernel
theorem dL_alike_102 : decode cL_alike 102 = .ok (.ladd, 1) := by decide +kernel
theorem dL_alike_103 : decode cL_alike 103 = .ok (.invokestatic 143, 3) := by decide +kernel
theorem dL_alike_106 : decode cL_alike 106 = .ok (.aload_n 1, 1) := by decide +kernel
theorem dL_alike_107 : decode cL_alike 107 = .ok (.iconst 4, 1) := by decide +kernel
theorem dL_alike_108 : decode cL_alike 108 = .ok (.ldc2_w 217, 3) := by decide +kernel
theorem dL_alike_111 : decode cL_alike 111 = .ok (.iload_n 2, 1) := by decide +kernel
theorem dL_alike_112 : decode cL_alike 112 = .ok (.bipush 20, 2) := by decide +kernel
theorem dL_alike_114 : decode cL_alike 114 = .ok (.irem, 1) := by decide +kernel
theorem dL_alike_115 : decode cL_alike 115 = .ok (.i2l, 1) := by decide +kernel
theorem dL_alike_116 : decode cL_alike 116 = .ok (.ladd, 1) := by decide +kernel
theorem dL_alike_117 : decode cL_alike 117 = .ok (.invokestatic 143, 3) := by decide +kernel
theorem dL_alike_120 : decode cL_alike 120 = .ok (.lcmp, 1) := by decide +kernel
theorem dL_alike_121 : decode cL_alike 121 = .ok (.ifCond .ne 7, 3) := by decide +kernel
theorem dL_alike_124 : decode cL_alike 124 = .ok (.iconst 1, 1) := by decide +kernel
theorem dL_alike_125 : decode cL_alike 125 = .ok (.goto 4, 3) := by decide +kernel
theorem dL_alike_128 : decode cL_alike 128 = .ok (.iconst 0, 1) := by decide +kernel
theorem dL_alike_129 : decode cL_alike 129 = .ok (.ireturn, 1) := by decide +kernel
theorem dL_name_0 : decode cL_name 0 = .ok (.iload_n 1, 1) := by decide +kernel
theorem dL_name_1 : decode cL_name 1 = .ok (.iconst 4, 1) := by decide +kernel
theorem dL_name_2 : decode cL_name 2 = .ok (.irem, 1) := by decide +kernel
theorem dL_name_3 : decode cL_name 3 = .ok (.ifCond .ne 14, 3) := by decide +kernel
theorem dL_name_6 : decode cL_name 6 = .ok (.iconst 1, 1) := by decide +kernel
theorem dL_name_7 : decode cL_name 7 = .ok (.iload_n 1, 1) := by decide +kernel
theorem dL_name_8 : decode cL_name 8 = .ok (.iconst 4, 1) := by decide +kernel
theorem dL_name_9 : decode cL_name 9 = .ok (.idiv, 1) := by decide +kernel
theorem dL_name_10 : decode cL_name 10 = .ok (.bipush 8, 2) := by decide +kernel
theorem dL_name_12 : decode cL_name 12 = .ok (.irem, 1) := by decide +kernel
theorem dL_name_13 : decode cL_name 13 = .ok (.iadd, 1) := by decide +kernel
theorem dL_name_14 : decode cL_name 14 = .ok (.goto 10, 3) := by decide +kernel
theorem dL_name_17 : decode cL_name 17 = .ok (.iconst 1, 1) := by decide +kernel
theorem dL_name_18 : decode cL_name 18 = .ok (.iload_n 1, 1) := by decide +kernel
theorem dL_name_19 : decode cL_name 19 = .ok (.iconst 4, 1) := by decide +kernel
theorem dL_name_20 : decode cL_name 20 = .ok (.idiv, 1) := by decide +kernel
theorem dL_name_21 : decode cL_name 21 = .ok (.iconst 2, 1) := by decide +kernel
theorem dL_name_22 : decode cL_name 22 = .ok (.irem, 1) := by decide +kernel
theorem dL_name_23 : decode cL_name 23 = .ok (.iadd, 1) := by decide +kernel
theorem dL_name_24 : decode cL_name 24 = .ok (.istore_n 2, 1) := by decide +kernel
theorem dL_name_25 : decode cL_name 25 = .ok (.iconst 1, 1) := by decide +kernel
theorem dL_name_26 : decode cL_name 26 = .ok (.istore_n 3, 1) := by decide +kernel
theorem dL_name_27 : decode cL_name 27 = .ok (.iconst 0, 1) := by decide +kernel
theorem dL_name_28 : decode cL_name 28 = .ok (.istore 4, 2) := by decide +kernel
theorem dL_name_30 : decode cL_name 30 = .ok (.iload 4, 2) := by decide +kernel
theorem dL_name_32 : decode cL_name 32 = .ok (.iload_n 2, 1) := by decide +kernel
theorem dL_name_33 : decode cL_name 33 = .ok (.if_icmp .ge 40, 3) := by decide +kernel
theorem dL_name_36 : decode cL_name 36 = .ok (.iload_n 3, 1) := by decide +kernel
theorem dL_name_37 : decode cL_name 37 = .ok (.ifCond .eq 36, 3) := by decide +kernel
theorem dL_name_40 : decode cL_name 40 = .ok (.aload_n 0, 1) := by decide +kernel
theorem dL_name_41 : decode cL_name 41 = .ok (.bipush 97, 2) := by decide +kernel
theorem dL_name_43 : decode cL_name 43 = .ok (.iload_n 1, 1) := by decide +kernel
theorem dL_name_44 : decode cL_name 44 = .ok (.bipush 32, 2) := by decide +kernel
theorem dL_name_46 : decode cL_name 46 = .ok (.idiv, 1) := by decide +kernel
theorem dL_name_47 : decode cL_name 47 = .ok (.iload 4, 2) := by decide +kernel
theorem dL_name_49 : decode cL_name 49 = .ok (.ishr, 1) := by decide +kernel
theorem dL_name_50 : decode cL_name 50 = .ok (.iconst 1, 1) := by decide +kernel
theorem dL_name_51 : decode cL_name 51 = .ok (.iand, 1) := by decide +kernel
theorem dL_name_52 : decode cL_name 52 = .ok (.iadd, 1) := by decide +kernel
theorem dL_name_53 : decode cL_name 53 = .ok (.invokestatic 156, 3) := by decide +kernel
theorem dL_name_56 : decode cL_name 56 = .ok (.lconst 0, 1) := by decide +kernel
theorem dL_name_57 : decode cL_name 57 = .ok (.lcmp, 1) := by decide +kernel
theorem dL_name_58 : decode cL_name 58 = .ok (.ifCond .le 7, 3) := by decide +kernel
theorem dL_name_61 : decode cL_name 61 = .ok (.iconst 1, 1) := by decide +kernel
theorem dL_name_62 : decode cL_name 62 = .ok (.goto 4, 3) := by decide +kernel
theorem dL_name_65 : decode cL_name 65 = .ok (.iconst 0, 1) := by decide +kernel
theorem dL_name_66 : decode cL_name 66 = .ok (.istore_n 3, 1) := by decide +kernel
theorem dL_name_67 : decode cL_name 67 = .ok (.iinc 4 1, 3) := by decide +kernel
theorem dL_name_70 : decode cL_name 70 = .ok (.goto (-40), 3) := by decide +kernel
theorem dL_name_73 : decode cL_name 73 = .ok (.iload_n 3, 1) := by decide +kernel
theorem dL_name_74 : decode cL_name 74 = .ok (.ireturn, 1) := by decide +kernel
theorem dL_tells_0 : decode cL_tells 0 = .ok (.aload_n 0, 1) := by decide +kernel
theorem dL_tells_1 : decode cL_tells 1 = .ok (.iload_n 2, 1) := by decide +kernel
theorem dL_tells_2 : decode cL_tells 2 = .ok (.invokestatic 219, 3) := by decide +kernel
theorem dL_tells_5 : decode cL_tells 5 = .ok (.istore_n 3, 1) := by decide +kernel
theorem dL_tells_6 : decode cL_tells 6 = .ok (.iconst 0, 1) := by decide +kernel
theorem dL_tells_7 : decode cL_tells 7 = .ok (.istore 4, 2) := by decide +kernel
theorem dL_tells_9 : decode cL_tells 9 = .ok (.iload 4, 2) := by decide +kernel
theorem dL_tells_11 : decode cL_tells 11 = .ok (.iload_n 1, 1) := by decide +kernel
theorem dL_tells_12 : decode cL_tells 12 = .ok (.iconst 3, 1) := by decide +kernel
theorem dL_tells_13 : decode cL_tells 13 = .ok (.irem, 1) := by decide +kernel
theorem dL_tells_14 : decode cL_tells 14 = .ok (.ifCond .ne 11, 3) := by decide +kernel
theorem dL_tells_17 : decode cL_tells 17 = .ok (.iload_n 1, 1) := by decide +kernel
theorem dL_tells_18 : decode cL_tells 18 = .ok (.iconst 3, 1) := by decide +kernel
theorem dL_tells_19 : decode cL_tells 19 = .ok (.idiv, 1) := by decide +kernel
theorem dL_tells_20 : decode cL_tells 20 = .ok (.iconst 4, 1) := by decide +kernel
theorem dL_tells_21 : decode cL_tells 21 = .ok (.irem, 1) := by decide +kernel
theorem dL_tells_22 : decode cL_tells 22 = .ok (.goto 4, 3) := by decide +kernel
theorem dL_tells_25 : decode cL_tells 25 = .ok (.iconst 0, 1) := by decide +kernel
theorem dL_tells_26 : decode cL_tells 26 = .ok (.if_icmp .ge 46, 3) := by decide +kernel
theorem dL_tells_29 : decode cL_tells 29 = .ok (.iload_n 3, 1) := by decide +kernel
theorem dL_tells_30 : decode cL_tells 30 = .ok (.ifCond .eq 42, 3) := by decide +kernel
theorem dL_tells_33 : decode cL_tells 33 = .ok (.aload_n 0, 1) := by decide +kernel
theorem dL_tells_34 : decode cL_tells 34 = .ok (.bipush 44, 2) := by decide +kernel
theorem dL_tells_36 : decode cL_tells 36 = .ok (.invokestatic 156, 3) := by decide +kernel
theorem dL_tells_39 : decode cL_tells 39 = .ok (.lconst 0, 1) := by decide +kernel
theorem dL_tells_40 : decode cL_tells 40 = .ok (.lcmp, 1) := by decide +kernel
theorem dL_tells_41 : decode cL_tells 41 = .ok (.ifCond .le 23, 3) := by decide +kernel
theorem dL_tells_44 : decode cL_tells 44 = .ok (.aload_n 0, 1) := by decide +kernel
theorem dL_tells_45 : decode cL_tells 45 = .ok (.iload_n 2, 1) := by decide +kernel
theorem dL_tells_46 : decode cL_tells 46 = .ok (.iconst 5, 1) := by decide +kernel
theorem dL_tells_47 : decode cL_tells 47 = .ok (.idiv, 1) := by decide +kernel
theorem dL_tells_48 : decode cL_tells 48 = .ok (.bipush 7, 2) := by decide +kernel
theorem dL_tells_50 : decode cL_tells 50 = .ok (.iload 4, 2) := by decide +kernel
theorem dL_tells_52 : decode cL_tells 52 = .ok (.imul, 1) := by decide +kernel
theorem dL_tells_53 : decode cL_tells 53 = .ok (.iadd, 1) := by decide +kernel
theorem dL_tells_54 : decode cL_tells 54 = .ok (.invokestatic 219, 3) := by decide +kernel
theorem dL_tells_57 : decode cL_tells 57 = .ok (.ifCond .eq 7, 3) := by decide +kernel
theorem dL_tells_60 : decode cL_tells 60 = .ok (.iconst 1, 1) := by decide +kernel
theorem dL_tells_61 : decode cL_tells 61 = .ok (.goto 4, 3) := by decide +kernel
theorem dL_tells_64 : decode cL_tells 64 = .ok (.iconst 0, 1) := by decide +kernel
theorem dL_tells_65 : decode cL_tells 65 = .ok (.istore_n 3, 1) := by decide +kernel
theorem dL_tells_66 : decode cL_tells 66 = .ok (.iinc 4 1, 3) := by decide +kernel
theorem dL_tells_69 : decode cL_tells 69 = .ok (.goto (-60), 3) := by decide +kernel
theorem dL_tells_72 : decode cL_tells 72 = .ok (.iload_n 1, 1) := by decide +kernel
theorem dL_tells_73 : decode cL_tells 73 = .ok (.iconst 4, 1) := by decide +kernel
theorem dL_tells_74 : decode cL_tells 74 = .ok (.irem, 1) := by decide +kernel
theorem dL_tells_75 : decode cL_tells 75 = .ok (.ifCond .ne 17, 3) := by decide +kernel
theorem dL_tells_78 : decode cL_tells 78 = .ok (.sipush 1000, 3) := by decide +kernel
theorem dL_tells_81 : decode cL_tells 81 = .ok (.iload_n 1, 1) := by decide +kernel
theorem dL_tells_82 : decode cL_tells 82 = .ok (.iconst 4, 1) := by decide +kernel
theorem dL_tells_83 : decode cL_tells 83 = .ok (.idiv, 1) := by decide +kernel
theorem dL_tells_84 : decode cL_tells 84 = .ok (.sipush 2000, 3) := by decide +kernel
theorem dL_tells_87 : decode cL_tells 87 = .ok (.irem, 1) := by decide +kernel
theorem dL_tells_88 : decode cL_tells 88 = .ok (.iadd, 1) := by decide +kernel
theorem dL_tells_89 : decode cL_tells 89 = .ok (.goto 19, 3) := by decide +kernel
theorem dL_tells_92 : decode cL_tells 92 = .ok (.sipush 1990, 3) := by decide +kernel
theorem dL_tells_95 : decode cL_tells 95 = .ok (.iload_n 1, 1) := by decide +kernel
theorem dL_tells_96 : decode cL_tells 96 = .ok (.iconst 4, 1) := by decide +kernel
theorem dL_tells_97 : decode cL_tells 97 = .ok (.idiv, 1) := by decide +kernel
theorem dL_tells_98 : decode cL_tells 98 = .ok (.iconst 3, 1) := by decide +kernel
theorem dL_tells_99 : decode cL_tells 99 = .ok (.irem, 1) := by decide +kernel
theorem dL_tells_100 : decode cL_tells 100 = .ok (.bipush 10, 2) := by decide +kernel
theorem dL_tells_102 : decode cL_tells 102 = .ok (.imul, 1) := by decide +kernel
theorem dL_tells_103 : decode cL_tells 103 = .ok (.iadd, 1) := by decide +kernel
theorem dL_tells_104 : decode cL_tells 104 = .ok (.iload_n 1, 1) := by decide +kernel
theorem dL_tells_105 : decode cL_tells 105 = .ok (.iconst 2, 1) := by decide +kernel
theorem dL_tells_106 : decode cL_tells 106 = .ok (.irem, 1) := by decide +kernel
theorem dL_tells_107 : decode cL_tells 107 = .ok (.iadd, 1) := by decide +kernel
theorem dL_tells_108 : decode cL_tells 108 = .ok (.istore 4, 2) := by decide +kernel
theorem dL_tells_110 : decode cL_tells 110 = .ok (.iload_n 3, 1) := by decide +kernel
theorem dL_tells_111 : decode cL_tells 111 = .ok (.ifCond .eq 18, 3) := by decide +kernel
theorem dL_tells_114 : decode cL_tells 114 = .ok (.aload_n 0, 1) := by decide +kernel
theorem dL_tells_115 : decode cL_tells 115 = .ok (.bipush 58, 2) := by decide +kernel
theorem dL_tells_117 : decode cL_tells 117 = .ok (.invokestatic 156, 3) := by decide +kernel
theorem dL_tells_120 : decode cL_tells 120 = .ok (.lconst 0, 1) := by decide +kernel
theorem dL_tells_121 : decode cL_tells 121 = .ok (.lcmp, 1) := by decide +kernel
theorem dL_tells_122 : decode cL_tells 122 = .ok (.ifCond .le 7, 3) := by decide +kernel
theorem dL_tells_125 : decode cL_tells 125 = .ok (.iconst 1, 1) := by decide +kernel
theorem dL_tells_126 : decode cL_tells 126 = .ok (.goto 4, 3) := by decide +kernel
theorem dL_tells_129 : decode cL_tells 129 = .ok (.iconst 0, 1) := by decide +kernel
theorem dL_tells_130 : decode cL_tells 130 = .ok (.istore_n 3, 1) := by decide +kernel
theorem dL_tells_131 : decode cL_tells 131 = .ok (.sipush 1000, 3) := by decide +kernel
theorem dL_tells_134 : decode cL_tells 134 = .ok (.istore 5, 2) := by decide +kernel
theorem dL_tells_136 : decode cL_tells 136 = .ok (.iload 5, 2) := by decide +kernel
theorem dL_tells_138 : decode cL_tells 138 = .ok (.ifCond .le 43, 3) := by decide +kernel
theorem dL_tells_141 : decode cL_tells 141 = .ok (.iload_n 3, 1) := by decide +kernel
theorem dL_tells_142 : decode cL_tells 142 = .ok (.ifCond .eq 39, 3) := by decide +kernel
theorem dL_tells_145 : decode cL_tells 145 = .ok (.aload_n 0, 1) := by decide +kernel
theorem dL_tells_146 : decode cL_tells 146 = .ok (.bipush 48, 2) := by decide +kernel
theorem dL_tells_148 : decode cL_tells 148 = .ok (.iload 4, 2) := by decide +kernel
theorem dL_tells_150 : decode cL_tells 150 = .ok (.iload 5, 2) := by decide +kernel
theorem dL_tells_152 : decode cL_tells 152 = .ok (.idiv, 1) := by decide +kernel
theorem dL_tells_153 : decode cL_tells 153 = .ok (.bipush 10, 2) := by decide +kernel
theorem dL_tells_155 : decode cL_tells 155 = .ok (.irem, 1) := by decide +kernel
theorem dL_tells_156 : decode cL_tells 156 = .ok (.iadd, 1) := by decide +kernel
theorem dL_tells_157 : decode cL_tells 157 = .ok (.invokestatic 156, 3) := by decide +kernel
theorem dL_tells_160 : decode cL_tells 160 = .ok (.lconst 0, 1) := by decide +kernel
theorem dL_tells_161 : decode cL_tells 161 = .ok (.lcmp, 1) := by decide +kernel
theorem dL_tells_162 : decode cL_tells 162 = .ok (.ifCond .le 7, 3) := by decide +kernel
theorem dL_tells_165 : decode cL_tells 165 = .ok (.iconst 1, 1) := by decide +kernel
theorem dL_tells_166 : decode cL_tells 166 = .ok (.goto 4, 3) := by decide +kernel
theorem dL_tells_169 : decode cL_tells 169 = .ok (.iconst 0, 1) := by decide +kernel
theorem dL_tells_170 : decode cL_tells 170 = .ok (.istore_n 3, 1) := by decide +kernel
theorem dL_tells_171 : decode cL_tells 171 = .ok (.iload 5, 2) := by decide +kernel
theorem dL_tells_173 : decode cL_tells 173 = .ok (.bipush 10, 2) := by decide +kernel
theorem dL_tells_175 : decode cL_tells 175 = .ok (.idiv, 1) := by decide +kernel
theorem dL_tells_176 : decode cL_tells 176 = .ok (.istore 5, 2) := by decide +kernel
theorem dL_tells_178 : decode cL_tells 178 = .ok (.goto (-42), 3) := by decide +kernel
theorem dL_tells_181 : decode cL_tells 181 = .ok (.iload_n 3, 1) := by decide +kernel
theorem dL_tells_182 : decode cL_tells 182 = .ok (.ifCond .eq 29, 3) := by decide +kernel
theorem dL_tells_185 : decode cL_tells 185 = .ok (.aload_n 0, 1) := by decide +kernel
theorem dL_tells_186 : decode cL_tells 186 = .ok (.bipush 58, 2) := by decide +kernel
theorem dL_tells_188 : decode cL_tells 188 = .ok (.invokestatic 156, 3) := by decide +kernel
theorem dL_tells_191 : decode cL_tells 191 = .ok (.lconst 0, 1) := by decide +kernel
theorem dL_tells_192 : decode cL_tells 192 = .ok (.lcmp, 1) := by decide +kernel
theorem dL_tells_193 : decode cL_tells 193 = .ok (.ifCond .le 18, 3) := by decide +kernel
theorem dL_tells_196 : decode cL_tells 196 = .ok (.aload_n 0, 1) := by decide +kernel
theorem dL_tells_197 : decode cL_tells 197 = .ok (.iload_n 1, 1) := by decide +kernel
theorem dL_tells_198 : decode cL_tells 198 = .ok (.bipush 7, 2) := by decide +kernel
theorem dL_tells_200 : decode cL_tells 200 = .ok (.idiv, 1) := by decide +kernel
theorem dL_tells_201 : decode cL_tells 201 = .ok (.invokestatic 219, 3) := by decide +kernel
theorem dL_tells_204 : decode cL_tells 204 = .ok (.ifCond .eq 7, 3) := by decide +kernel
theorem dL_tells_207 : decode cL_tells 207 = .ok (.iconst 1, 1) := by decide +kernel
theorem dL_tells_208 : decode cL_tells 208 = .ok (.goto 4, 3) := by decide +kernel
theorem dL_tells_211 : decode cL_tells 211 = .ok (.iconst 0, 1) := by decide +kernel
theorem dL_tells_212 : decode cL_tells 212 = .ok (.ireturn, 1) := by decide +kernel
theorem dL_act_0 : decode cL_act 0 = .ok (.iload_n 2, 1) := by decide +kernel
theorem dL_act_1 : decode cL_act 1 = .ok (.bipush 9, 2) := by decide +kernel
theorem dL_act_3 : decode cL_act 3 = .ok (.irem, 1) := by decide +kernel
theorem dL_act_4 : decode cL_act 4 = .ok (.istore_n 3, 1) := by decide +kernel
theorem dL_act_5 : decode cL_act 5 = .ok (.iload_n 1, 1) := by decide +kernel
theorem dL_act_6 : decode cL_act 6 = .ok (.bipush 18, 2) := by decide +kernel
theorem dL_act_8 : decode cL_act 8 = .ok (.irem, 1) := by decide +kernel
theorem dL_act_9 : decode cL_act 9 = .ok (.tableswitch 203 0 12 #[67, 75, 83, 83, 89, 89, 95, 95, 95, 139, 144, 172, 172], 67) := by decide +kernel
theorem dL_act_76 : decode cL_act 76 = .ok (.aload_n 0, 1) := by decide +kernel
theorem dL_act_77 : decode cL_act 77 = .ok (.iload_n 2, 1) := by decide +kernel
theorem dL_act_78 : decode cL_act 78 = .ok (.iconst 4, 1) := by decide +kernel
theorem dL_act_79 : decode cL_act 79 = .ok (.irem, 1) := by decide +kernel
theorem dL_act_80 : decode cL_act 80 = .ok (.invokestatic 126, 3) := by decide +kernel
theorem dL_act_83 : decode cL_act 83 = .ok (.lreturn, 1) := by decide +kernel
theorem dL_act_84 : decode cL_act 84 = .ok (.aload_n 0, 1) := by decide +kernel
theorem dL_act_85 : decode cL_act 85 = .ok (.iload_n 2, 1) := by decide +kernel
theorem dL_act_86 : decode cL_act 86 = .ok (.iconst 2, 1) := by decide +kernel
theorem dL_act_87 : decode cL_act 87 = .ok (.irem, 1) := by decide +kernel
theorem dL_act_88 : decode cL_act 88 = .ok (.invokestatic 128, 3) := by decide +kernel
theorem dL_act_91 : decode cL_act 91 = .ok (.lreturn, 1) := by decide +kernel
theorem dL_act_92 : decode cL_act 92 = .ok (.aload_n 0, 1) := by decide +kernel
theorem dL_act_93 : decode cL_act 93 = .ok (.invokevirtual 205, 3) := by decide +kernel
theorem dL_act_96 : decode cL_act 96 = .ok (.i2l, 1) := by decide +kernel
theorem dL_act_97 : decode cL_act 97 = .ok (.lreturn, 1) := by decide +kernel
theorem dL_act_98 : decode cL_act 98 = .ok (.aload_n 0, 1) := by decide +kernel
theorem dL_act_99 : decode cL_act 99 = .ok (.iload_n 3, 1) := by decide +kernel
theorem dL_act_100 : decode cL_act 100 = .ok (.invokestatic 124, 3) := by decide +kernel
theorem dL_act_103 : decode cL_act 103 = .ok (.lreturn, 1) := by decide +kernel
theorem dL_act_104 : decode cL_act 104 = .ok (.aload_n 0, 1) := by decide +kernel
theorem dL_act_105 : decode cL_act 105 = .ok (.iload_n 3, 1) := by decide +kernel
theorem dL_act_106 : decode cL_act 106 = .ok (.iload_n 2, 1) := by decide +kernel
theorem dL_act_107 : decode cL_act 107 = .ok (.iconst 5, 1) := by decide +kernel
theorem dL_act_108 : decode cL_act 108 = .ok (.irem, 1) := by decide +kernel
theorem dL_act_109 : decode cL_act 109 = .ok (.ifCond .ne 18, 3) := by decide +kernel
theorem dL_act_112 : decode cL_act 112 = .ok (.sipush 1000, 3) := by decide +kernel
theorem dL_act_115 : decode cL_act 115 = .ok (.iload_n 2, 1) := by decide +kernel
theorem dL_act_116 : decode cL_act 116 = .ok (.bipush 9, 2) := by decide +kernel
theorem dL_act_118 : decode cL_act 118 = .ok (.idiv, 1) := by decide +kernel
theorem dL_act_119 : decode cL_act 119 = .ok (.sipush 2000, 3) := by decide +kernel
theorem dL_act_122 : decode cL_act 122 = .ok (.irem, 1) := by decide +kernel
theorem dL_act_123 : decode cL_act 123 = .ok (.iadd, 1) := by decide +kernel
theorem dL_act_124 : decode cL_act 124 = .ok (.goto 20, 3) := by decide +kernel
theorem dL_act_127 : decode cL_act 127 = .ok (.sipush 1990, 3) := by decide +kernel
theorem dL_act_130 : decode cL_act 130 = .ok (.iload_n 2, 1) := by decide +kernel
theorem dL_act_131 : decode cL_act 131 = .ok (.bipush 9, 2) := by decide +kernel
theorem dL_act_133 : decode cL_act 133 = .ok (.idiv, 1) := by decide +kernel
theorem dL_act_134 : decode cL_act 134 = .ok (.iconst 3, 1) := by decide +kernel
theorem dL_act_135 : decode cL_act 135 = .ok (.irem, 1) := by decide +kernel
theorem dL_act_136 : decode cL_act 136 = .ok (.bipush 10, 2) := by decide +kernel
theorem dL_act_138 : decode cL_act 138 = .ok (.imul, 1) := by decide +kernel
theorem dL_act_139 : decode cL_act 139 = .ok (.iadd, 1) := by decide +kernel
theorem dL_act_140 : decode cL_act 140 = .ok (.iload_n 2, 1) := by decide +kernel
theorem dL_act_141 : decode cL_act 141 = .ok (.iconst 2, 1) := by decide +kernel
theorem dL_act_142 : decode cL_act 142 = .ok (.irem, 1) := by decide +kernel
theorem dL_act_143 : decode cL_act 143 = .ok (.iadd, 1) := by decide +kernel
theorem dL_act_144 : decode cL_act 144 = .ok (.invokestatic 122, 3) := by decide +kernel
theorem dL_act_147 : decode cL_act 147 = .ok (.lreturn, 1) := by decide +kernel
theorem dL_act_148 : decode cL_act 148 = .ok (.aload_n 0, 1) := by decide +kernel
theorem dL_act_149 : decode cL_act 149 = .ok (.invokestatic 203, 3) := by decide +kernel
theorem dL_act_152 : decode cL_act 152 = .ok (.lreturn, 1) := by decide +kernel
theorem dL_act_153 : decode cL_act 153 = .ok (.iload_n 2, 1) := by decide +kernel
theorem dL_act_154 : decode cL_act 154 = .ok (.iconst 2, 1) := by decide +kernel
theorem dL_act_155 : decode cL_act 155 = .ok (.irem, 1) := by decide +kernel
theorem dL_act_156 : decode cL_act 156 = .ok (.ifCond .ne 15, 3) := by decide +kernel
theorem dL_act_159 : decode cL_act 159 = .ok (.aload_n 0, 1) := by decide +kernel
theorem dL_act_160 : decode cL_act 160 = .ok (.iload_n 2, 1) := by decide +kernel
theorem dL_act_161 : decode cL_act 161 = .ok (.iconst 2, 1) := by decide +kernel
theorem dL_act_162 : decode cL_act 162 = .ok (.idiv, 1) := by decide +kernel
theorem dL_act_163 : decode cL_act 163 = .ok (.iconst 1, 1) := by decide +kernel
theorem dL_act_164 : decode cL_act 164 = .ok (.iand, 1) := by decide +kernel
theorem dL_act_165 : decode cL_act 165 = .ok (.invokestatic 152, 3) := by decide +kernel
theorem dL_act_168 : decode cL_act 168 = .ok (.goto 12, 3) := by decide +kernel
theorem dL_act_171 : decode cL_act 171 = .ok (.aload_n 0, 1) := by decide +kernel
theorem dL_act_172 : decode cL_act 172 = .ok (.iload_n 2, 1) := by decide +kernel
theorem dL_act_173 : decode cL_act 173 = .ok (.iconst 2, 1) := by decide +kernel
theorem dL_act_174 : decode cL_act 174 = .ok (.idiv, 1) := by decide +kernel
theorem dL_act_175 : decode cL_act 175 = .ok (.iconst 1, 1) := by decide +kernel
theorem dL_act_176 : decode cL_act 176 = .ok (.iand, 1) := by decide +kernel
theorem dL_act_177 : decode cL_act 177 = .ok (.invokestatic 154, 3) := by decide +kernel
theorem dL_act_180 : decode cL_act 180 = .ok (.lreturn, 1) := by decide +kernel
theorem dL_act_181 : decode cL_act 181 = .ok (.aload_n 0, 1) := by decide +kernel
theorem dL_act_182 : decode cL_act 182 = .ok (.invokevirtual 208, 3) := by decide +kernel
theorem dL_act_185 : decode cL_act 185 = .ok (.ifCond .lt 23, 3) := by decide +kernel
theorem dL_act_188 : decode cL_act 188 = .ok (.aload_n 0, 1) := by decide +kernel
theorem dL_act_189 : decode cL_act 189 = .ok (.iload_n 2, 1) := by decide +kernel
theorem dL_act_190 : decode cL_act 190 = .ok (.iload_n 1, 1) := by decide +kernel
theorem dL_act_191 : decode cL_act 191 = .ok (.bipush 18, 2) := by decide +kernel
theorem dL_act_193 : decode cL_act 193 = .ok (.idiv, 1) := by decide +kernel
theorem dL_act_194 : decode cL_act 194 = .ok (.invokestatic 223, 3) := by decide +kernel
theorem dL_act_197 : decode cL_act 197 = .ok (.ifCond .eq 11, 3) := by decide +kernel
theorem dL_act_200 : decode cL_act 200 = .ok (.aload_n 0, 1) := by decide +kernel
theorem dL_act_201 : decode cL_act 201 = .ok (.iload_n 3, 1) := by decide +kernel
theorem dL_act_202 : decode cL_act 202 = .ok (.invokestatic 120, 3) := by decide +kernel
theorem dL_act_205 : decode cL_act 205 = .ok (.goto 6, 3) := by decide +kernel
theorem dL_act_208 : decode cL_act 208 = .ok (.ldc2_w 21, 3) := by decide +kernel
theorem dL_act_211 : decode cL_act 211 = .ok (.lreturn, 1) := by decide +kernel
theorem dL_act_212 : decode cL_act 212 = .ok (.aload_n 0, 1) := by decide +kernel
theorem dL_act_213 : decode cL_act 213 = .ok (.invokevirtual 208, 3) := by decide +kernel
theorem dL_act_216 : decode cL_act 216 = .ok (.ifCond .lt 22, 3) := by decide +kernel
theorem dL_act_219 : decode cL_act 219 = .ok (.aload_n 0, 1) := by decide +kernel
theorem dL_act_220 : decode cL_act 220 = .ok (.iload_n 2, 1) := by decide +kernel
theorem dL_act_221 : decode cL_act 221 = .ok (.iload_n 1, 1) := by decide +kernel
theorem dL_act_222 : decode cL_act 222 = .ok (.bipush 18, 2) := by decide +kernel
theorem dL_act_224 : decode cL_act 224 = .ok (.idiv, 1) := by decide +kernel
theorem dL_act_225 : decode cL_act 225 = .ok (.invokestatic 223, 3) := by decide +kernel
theorem dL_act_228 : decode cL_act 228 = .ok (.ifCond .eq 10, 3) := by decide +kernel
theorem dL_act_231 : decode cL_act 231 = .ok (.aload_n 0, 1) := by decide +kernel
theorem dL_act_232 : decode cL_act 232 = .ok (.invokestatic 141, 3) := by decide +kernel
theorem dL_act_235 : decode cL_act 235 = .ok (.goto 6, 3) := by decide +kernel
theorem dL_act_238 : decode cL_act 238 = .ok (.ldc2_w 21, 3) := by decide +kernel
theorem dL_act_241 : decode cL_act 241 = .ok (.lreturn, 1) := by decide +kernel
theorem dL_law_0 : decode cL_law 0 = .ok (.new 10, 3) := by decide +kernel
theorem dL_law_3 : decode cL_law 3 = .ok (.dup, 1) := by decide +kernel
theorem dL_law_4 : decode cL_law 4 = .ok (.invokespecial 226, 3) := by decide +kernel
theorem dL_law_7 : decode cL_law 7 = .ok (.astore_n 1, 1) := by decide +kernel
theorem dL_law_8 : decode cL_law 8 = .ok (.new 10, 3) := by decide +kernel
theorem dL_law_11 : decode cL_law 11 = .ok (.dup, 1) := by decide +kernel
theorem dL_law_12 : decode cL_law 12 = .ok (.invokespecial 226, 3) := by decide +kernel
theorem dL_law_15 : decode cL_law 15 = .ok (.astore_n 2, 1) := by decide +kernel
theorem dL_law_16 : decode cL_law 16 = .ok (.aload_n 1, 1) := by decide +kernel
theorem dL_law_17 : decode cL_law 17 = .ok (.aload_n 2, 1) := by decide +kernel
theorem dL_law_18 : decode cL_law 18 = .ok (.aload_n 0, 1) := by decide +kernel
theorem dL_law_19 : decode cL_law 19 = .ok (.iconst 0, 1) := by decide +kernel
theorem dL_law_20 : decode cL_law 20 = .ok (.invokestatic 227, 3) := by decide +kernel
theorem dL_law_23 : decode cL_law 23 = .ok (.invokestatic 231, 3) := by decide +kernel
theorem dL_law_26 : decode cL_law 26 = .ok (.ifCond .eq 21, 3) := by decide +kernel
theorem dL_law_29 : decode cL_law 29 = .ok (.aload_n 1, 1) := by decide +kernel
theorem dL_law_30 : decode cL_law 30 = .ok (.invokestatic 235, 3) := by decide +kernel
theorem dL_law_33 : decode cL_law 33 = .ok (.ifCond .eq 14, 3) := by decide +kernel
theorem dL_law_36 : decode cL_law 36 = .ok (.aload_n 1, 1) := by decide +kernel
theorem dL_law_37 : decode cL_law 37 = .ok (.invokestatic 239, 3) := by decide +kernel
theorem dL_law_40 : decode cL_law 40 = .ok (.ifCond .eq 7, 3) := by decide +kernel
theorem dL_law_43 : decode cL_law 43 = .ok (.iconst 1, 1) := by decide +kernel
theorem dL_law_44 : decode cL_law 44 = .ok (.goto 4, 3) := by decide +kernel
theorem dL_law_47 : decode cL_law 47 = .ok (.iconst 0, 1) := by decide +kernel
theorem dL_law_48 : decode cL_law 48 = .ok (.istore_n 3, 1) := by decide +kernel
theorem dL_law_49 : decode cL_law 49 = .ok (.iconst 0, 1) := by decide +kernel
theorem dL_law_50 : decode cL_law 50 = .ok (.istore 4, 2) := by decide +kernel
theorem dL_law_52 : decode cL_law 52 = .ok (.iload 4, 2) := by decide +kernel
theorem dL_law_54 : decode cL_law 54 = .ok (.bipush 48, 2) := by decide +kernel
theorem dL_law_56 : decode cL_law 56 = .ok (.if_icmp .ge 289, 3) := by decide +kernel
theorem dL_law_59 : decode cL_law 59 = .ok (.iload_n 3, 1) := by decide +kernel
theorem dL_law_60 : decode cL_law 60 = .ok (.ifCond .eq 285, 3) := by decide +kernel
theorem dL_law_63 : decode cL_law 63 = .ok (.aload_n 0, 1) := by decide +kernel
theorem dL_law_64 : decode cL_law 64 = .ok (.iconst 2, 1) := by decide +kernel
theorem dL_law_65 : decode cL_law 65 = .ok (.iload 4, 2) := by decide +kernel
theorem dL_law_67 : decode cL_law 67 = .ok (.imul, 1) := by decide +kernel
theorem dL_law_68 : decode cL_law 68 = .ok (.invokestatic 227, 3) := by decide +kernel
theorem dL_law_71 : decode cL_law 71 = .ok (.istore 5, 2) := by decide +kernel
theorem dL_law_73 : decode cL_law 73 = .ok (.aload_n 0, 1) := by decide +kernel
theorem dL_law_74 : decode cL_law 74 = .ok (.iconst 2, 1) := by decide +kernel
theorem dL_law_75 : decode cL_law 75 = .ok (.iload 4, 2) := by decide +kernel
theorem dL_law_77 : decode cL_law 77 = .ok (.imul, 1) := by decide +kernel
theorem dL_law_78 : decode cL_law 78 = .ok (.iconst 1, 1) := by decide +kernel
theorem dL_law_79 : decode cL_law 79 = .ok (.iadd, 1) := by decide +kernel
theorem dL_law_80 : decode cL_law 80 = .ok (.invokestatic 227, 3) := by decide +kernel
theorem dL_law_83 : decode cL_law 83 = .ok (.istore 6, 2) := by decide +kernel
theorem dL_law_85 : decode cL_law 85 = .ok (.iload 4, 2) := by decide +kernel
theorem dL_law_87 : decode cL_law 87 = .ok (.bipush 24, 2) := by decide +kernel
theorem dL_law_89 : decode cL_law 89 = .ok (.irem, 1) := by decide +kernel
theorem dL_law_90 : decode cL_law 90 = .ok (.ifCond .ne 114, 3) := by decide +kernel
theorem dL_law_93 : decode cL_law 93 = .ok (.aload_n 1, 1) := by decide +kernel
theorem dL_law_94 : decode cL_law 94 = .ok (.invokevirtual 208, 3) := by decide +kernel
theorem dL_law_97 : decode cL_law 97 = .ok (.ifCond .lt 102, 3) := by decide +kernel
theorem dL_law_100 : decode cL_law 100 = .ok (.aload_n 2, 1) := by decide +kernel
theorem dL_law_101 : decode cL_law 101 = .ok (.invokevirtual 208, 3) := by decide +kernel
theorem dL_law_104 : decode cL_law 104 = .ok (.ifCond .lt 95, 3) := by decide +kernel
theorem dL_law_107 : decode cL_law 107 = .ok (.aload_n 1, 1) := by decide +kernel
theorem dL_law_108 : decode cL_law 108 = .ok (.iload 5, 2) := by decide +kernel
theorem dL_law_110 : decode cL_law 110 = .ok (.iload 6, 2) := by decide +kernel
theorem dL_law_112 : decode cL_law 112 = .ok (.invokestatic 223, 3) := by decide +kernel
theorem dL_law_115 : decode cL_law 115 = .ok (.ifCond .eq 84, 3) := by decide +kernel
theorem dL_law_118 : decode cL_law 118 = .ok (.aload_n 2, 1) := by decide +kernel
theorem dL_law_119 : decode cL_law 119 = .ok (.iload 5, 2) := by decide +kernel
theorem dL_law_121 : decode cL_law 121 = .ok (.iload 6, 2) := by decide +kernel
theorem dL_law_123 : decode cL_law 123 = .ok (.invokestatic 223, 3) := by decide +kernel
theorem dL_law_126 : decode cL_law 126 = .ok (.ifCond .eq 73, 3) := by decide +kernel
theorem dL_law_129 : decode cL_law 129 = .ok (.aload_n 1, 1) := by decide +kernel
theorem dL_law_130 : decode cL_law 130 = .ok (.bipush 59, 2) := by decide +kernel
theorem dL_law_132 : decode cL_law 132 = .ok (.invokestatic 156, 3) := by decide +kernel
theorem dL_law_135 : decode cL_law 135 = .ok (.lconst 0, 1) := by decide +kernel
theorem dL_law_136 : decode cL_law 136 = .ok (.lcmp, 1) := by decide +kernel
theorem dL_law_137 : decode cL_law 137 = .ok (.ifCond .le 62, 3) := by decide +kernel
theorem dL_law_140 : decode cL_law 140 = .ok (.aload_n 2, 1) := by decide +kernel
theorem dL_law_141 : decode cL_law 141 = .ok (.bipush 59, 2) := by decide +kernel
theorem dL_law_143 : decode cL_law 143 = .ok (.invokestatic 156, 3) := by decide +kernel
theorem dL_law_146 : decode cL_law 146 = .ok (.lconst 0, 1) := by decide +kernel
theorem dL_law_147 : decode cL_law 147 = .ok (.lcmp, 1) := by decide +kernel
theorem dL_law_148 : decode cL_law 148 = .ok (.ifCond .le 51, 3) := by decide +kernel
theorem dL_law_151 : decode cL_law 151 = .ok (.aload_n 1, 1) := by decide +kernel
theorem dL_law_152 : decode cL_law 152 = .ok (.iload 6, 2) := by decide +kernel
theorem dL_law_154 : decode cL_law 154 = .ok (.iload 5, 2) := by decide +kernel
theorem dL_law_156 : decode cL_law 156 = .ok (.invokestatic 223, 3) := by decide +kernel
theorem dL_law_159 : decode cL_law 159 = .ok (.ifCond .eq 40, 3) := by decide +kernel
theorem dL_law_162 : decode cL_law 162 = .ok (.aload_n 2, 1) := by decide +kernel
theorem dL_law_163 : decode cL_law 163 = .ok (.iload 6, 2) := by decide +kernel
theorem dL_law_165 : decode cL_law 165 = .ok (.iload 5, 2) := by decide +kernel
theorem dL_law_167 : decode cL_law 167 = .ok (.invokestatic 223, 3) := by decide +kernel
theorem dL_law_170 : decode cL_law 170 = .ok (.ifCond .eq 29, 3) := by decide +kernel
theorem dL_law_173 : decode cL_law 173 = .ok (.aload_n 1, 1) := by decide +kernel
theorem dL_law_174 : decode cL_law 174 = .ok (.invokestatic 139, 3) := by decide +kernel
theorem dL_law_177 : decode cL_law 177 = .ok (.ldc2_w 181, 3) := by decide +kernel
theorem dL_law_180 : decode cL_law 180 = .ok (.lcmp, 1) := by decide +kernel
theorem dL_law_181 : decode cL_law 181 = .ok (.ifCond .ne 18, 3) := by decide +kernel
theorem dL_law_184 : decode cL_law 184 = .ok (.aload_n 2, 1) := by decide +kernel
theorem dL_law_185 : decode cL_law 185 = .ok (.invokestatic 139, 3) := by decide +kernel
theorem dL_law_188 : decode cL_law 188 = .ok (.ldc2_w 181, 3) := by decide +kernel
theorem dL_law_191 : decode cL_law 191 = .ok (.lcmp, 1) := by decide +kernel
theorem dL_law_192 : decode cL_law 192 = .ok (.ifCond .ne 7, 3) := by decide +kernel
theorem dL_law_195 : decode cL_law 195 = .ok (.iconst 1, 1) := by decide +kernel
theorem dL_law_196 : decode cL_law 196 = .ok (.goto 4, 3) := by decide +kernel
theorem dL_law_199 : decode cL_law 199 = .ok (.iconst 0, 1) := by decide +kernel
theorem dL_law_200 : decode cL_law 200 = .ok (.istore_n 3, 1) := by decide +kernel
theorem dL_law_201 : decode cL_law 201 = .ok (.goto 138, 3) := by decide +kernel
theorem dL_law_204 : decode cL_law 204 = .ok (.aload_n 1, 1) := by decide +kernel
theorem dL_law_205 : decode cL_law 205 = .ok (.iload 5, 2) := by decide +kernel
theorem dL_law_207 : decode cL_law 207 = .ok (.iload 6, 2) := by decide +kernel
theorem dL_law_209 : decode cL_law 209 = .ok (.invokestatic 242, 3) := by decide +kernel
theorem dL_law_212 : decode cL_law 212 = .ok (.aload_n 2, 1) := by decide +kernel
theorem dL_law_213 : decode cL_law 213 = .ok (.iload 5, 2) := by decide +kernel
theorem dL_law_215 : decode cL_law 215 = .ok (.iload 6, 2) := by decide +kernel
theorem dL_law_217 : decode cL_law 217 = .ok (.invokestatic 242, 3) := by decide +kernel
theorem dL_law_220 : decode cL_law 220 = .ok (.lcmp, 1) := by decide +kernel
theorem dL_law_221 : decode cL_law 221 = .ok (.ifCond .ne 7, 3) := by decide +kernel
theorem dL_law_224 : decode cL_law 224 = .ok (.iconst 1, 1) := by decide +kernel
theorem dL_law_225 : decode cL_law 225 = .ok (.goto 4, 3) := by decide +kernel
theorem dL_law_228 : decode cL_law 228 = .ok (.iconst 0, 1) := by decide +kernel
theorem dL_law_229 : decode cL_law 229 = .ok (.istore_n 3, 1) := by decide +kernel
theorem dL_law_230 : decode cL_law 230 = .ok (.iload 4, 2) := by decide +kernel
theorem dL_law_232 : decode cL_law 232 = .ok (.bipush 6, 2) := by decide +kernel
theorem dL_law_234 : decode cL_law 234 = .ok (.irem, 1) := by decide +kernel
theorem dL_law_235 : decode cL_law 235 = .ok (.ifCond .ne 27, 3) := by decide +kernel
theorem dL_law_238 : decode cL_law 238 = .ok (.iload_n 3, 1) := by decide +kernel
theorem dL_law_239 : decode cL_law 239 = .ok (.ifCond .eq 21, 3) := by decide +kernel
theorem dL_law_242 : decode cL_law 242 = .ok (.aload_n 2, 1) := by decide +kernel
theorem dL_law_243 : decode cL_law 243 = .ok (.invokestatic 235, 3) := by decide +kernel
theorem dL_law_246 : decode cL_law 246 = .ok (.ifCond .eq 14, 3) := by decide +kernel
theorem dL_law_249 : decode cL_law 249 = .ok (.aload_n 2, 1) := by decide +kernel
theorem dL_law_250 : decode cL_law 250 = .ok (.invokestatic 239, 3) := by decide +kernel
theorem dL_law_253 : decode cL_law 253 = .ok (.ifCond .eq 7, 3) := by decide +kernel
theorem dL_law_256 : decode cL_law 256 = .ok (.iconst 1, 1) := by decide +kernel
theorem dL_law_257 : decode cL_law 257 = .ok (.goto 4, 3) := by decide +kernel
theorem dL_law_260 : decode cL_law 260 = .ok (.iconst 0, 1) := by decide +kernel
theorem dL_law_261 : decode cL_law 261 = .ok (.istore_n 3, 1) := by decide +kernel
theorem dL_law_262 : decode cL_law 262 = .ok (.iload 4, 2) := by decide +kernel
theorem dL_law_264 : decode cL_law 264 = .ok (.bipush 12, 2) := by decide +kernel
theorem dL_law_266 : decode cL_law 266 = .ok (.irem, 1) := by decide +kernel
theorem dL_law_267 : decode cL_law 267 = .ok (.bipush 11, 2) := by decide +kernel
theorem dL_law_269 : decode cL_law 269 = .ok (.if_icmp .ne 42, 3) := by decide +kernel
theorem dL_law_272 : decode cL_law 272 = .ok (.iload_n 3, 1) := by decide +kernel
theorem dL_law_273 : decode cL_law 273 = .ok (.ifCond .eq 36, 3) := by decide +kernel
theorem dL_law_276 : decode cL_law 276 = .ok (.aload_n 2, 1) := by decide +kernel
theorem dL_law_277 : decode cL_law 277 = .ok (.iload 6, 2) := by decide +kernel
theorem dL_law_279 : decode cL_law 279 = .ok (.invokestatic 245, 3) := by decide +kernel
theorem dL_law_282 : decode cL_law 282 = .ok (.ifCond .eq 27, 3) := by decide +kernel
theorem dL_law_285 : decode cL_law 285 = .ok (.aload_n 1, 1) := by decide +kernel
theorem dL_law_286 : decode cL_law 286 = .ok (.iconst 1, 1) := by decide +kernel
theorem dL_law_287 : decode cL_law 287 = .ok (.invokestatic 152, 3) := by decide +kernel
theorem dL_law_290 : decode cL_law 290 = .ok (.lconst 0, 1) := by decide +kernel
theorem dL_law_291 : decode cL_law 291 = .ok (.lcmp, 1) := by decide +kernel
theorem dL_law_292 : decode cL_law 292 = .ok (.ifCond .lt 17, 3) := by decide +kernel
theorem dL_law_295 : decode cL_law 295 = .ok (.aload_n 1, 1) := by decide +kernel
theorem dL_law_296 : decode cL_law 296 = .ok (.iconst 1, 1) := by decide +kernel
theorem dL_law_297 : decode cL_law 297 = .ok (.invokestatic 154, 3) := by decide +kernel
theorem dL_law_300 : decode cL_law 300 = .ok (.lconst 0, 1) := by decide +kernel
theorem dL_law_301 : decode cL_law 301 = .ok (.lcmp, 1) := by decide +kernel
theorem dL_law_302 : decode cL_law 302 = .ok (.ifCond .lt 7, 3) := by decide +kernel
theorem dL_law_305 : decode cL_law 305 = .ok (.iconst 1, 1) := by decide +kernel
theorem dL_law_306 : decode cL_law 306 = .ok (.goto 4, 3) := by decide +kernel
theorem dL_law_309 : decode cL_law 309 = .ok (.iconst 0, 1) := by decide +kernel
theorem dL_law_310 : decode cL_law 310 = .ok (.istore_n 3, 1) := by decide +kernel
theorem dL_law_311 : decode cL_law 311 = .ok (.iload_n 3, 1) := by decide +kernel
theorem dL_law_312 : decode cL_law 312 = .ok (.ifCond .eq 25, 3) := by decide +kernel
theorem dL_law_315 : decode cL_law 315 = .ok (.iload 4, 2) := by decide +kernel
theorem dL_law_317 : decode cL_law 317 = .ok (.bipush 6, 2) := by decide +kernel
theorem dL_law_319 : decode cL_law 319 = .ok (.irem, 1) := by decide +kernel
theorem dL_law_320 : decode cL_law 320 = .ok (.ifCond .gt 13, 3) := by decide +kernel
theorem dL_law_323 : decode cL_law 323 = .ok (.aload_n 1, 1) := by decide +kernel
theorem dL_law_324 : decode cL_law 324 = .ok (.aload_n 2, 1) := by decide +kernel
theorem dL_law_325 : decode cL_law 325 = .ok (.iload 6, 2) := by decide +kernel
theorem dL_law_327 : decode cL_law 327 = .ok (.invokestatic 231, 3) := by decide +kernel
theorem dL_law_330 : decode cL_law 330 = .ok (.ifCond .eq 7, 3) := by decide +kernel
theorem dL_law_333 : decode cL_law 333 = .ok (.iconst 1, 1) := by decide +kernel
theorem dL_law_334 : decode cL_law 334 = .ok (.goto 4, 3) := by decide +kernel
theorem dL_law_337 : decode cL_law 337 = .ok (.iconst 0, 1) := by decide +kernel
theorem dL_law_338 : decode cL_law 338 = .ok (.istore_n 3, 1) := by decide +kernel
theorem dL_law_339 : decode cL_law 339 = .ok (.iinc 4 1, 3) := by decide +kernel
theorem dL_law_342 : decode cL_law 342 = .ok (.goto (-290), 3) := by decide +kernel
theorem dL_law_345 : decode cL_law 345 = .ok (.iload_n 3, 1) := by decide +kernel
theorem dL_law_346 : decode cL_law 346 = .ok (.ifCond .eq 17, 3) := by decide +kernel
theorem dL_law_349 : decode cL_law 349 = .ok (.aload_n 1, 1) := by decide +kernel
theorem dL_law_350 : decode cL_law 350 = .ok (.aload_n 2, 1) := by decide +kernel
theorem dL_law_351 : decode cL_law 351 = .ok (.ldc 248, 2) := by decide +kernel
theorem dL_law_353 : decode cL_law 353 = .ok (.invokestatic 231, 3) := by decide +kernel
theorem dL_law_356 : decode cL_law 356 = .ok (.ifCond .eq 7, 3) := by decide +kernel
theorem dL_law_359 : decode cL_law 359 = .ok (.iconst 1, 1) := by decide +kernel
theorem dL_law_360 : decode cL_law 360 = .ok (.goto 4, 3) := by decide +kernel
theorem dL_law_363 : decode cL_law 363 = .ok (.iconst 0, 1) := by decide +kernel
theorem dL_law_364 : decode cL_law 364 = .ok (.ireturn, 1) := by decide +kernel
