theorem dX11_readFirst_0 : decode cX11_readFirst 0 = .ok (.aload_n 0, 1) := by decide +kernel
theorem dX11_readFirst_1 : decode cX11_readFirst 1 = .ok (.ldc 179, 2) := by decide +kernel
theorem dX11_readFirst_3 : decode cX11_readFirst 3 = .ok (.invokevirtual 172, 3) := by decide +kernel
theorem dX11_readFirst_6 : decode cX11_readFirst 6 = .ok (.aload_n 0, 1) := by decide +kernel
theorem dX11_readFirst_7 : decode cX11_readFirst 7 = .ok (.getfield 31, 3) := by decide +kernel
theorem dX11_readFirst_10 : decode cX11_readFirst 10 = .ok (.iconst 0, 1) := by decide +kernel
theorem dX11_readFirst_11 : decode cX11_readFirst 11 = .ok (.aload_n 0, 1) := by decide +kernel
theorem dX11_readFirst_12 : decode cX11_readFirst 12 = .ok (.ldc 181, 2) := by decide +kernel
theorem dX11_readFirst_14 : decode cX11_readFirst 14 = .ok (.iconst 1, 1) := by decide +kernel
theorem dX11_readFirst_15 : decode cX11_readFirst 15 = .ok (.bipush 16, 2) := by decide +kernel
theorem dX11_readFirst_17 : decode cX11_readFirst 17 = .ok (.invokevirtual 182, 3) := by decide +kernel
theorem dX11_readFirst_20 : decode cX11_readFirst 20 = .ok (.iastore, 1) := by decide +kernel
theorem dX11_readFirst_21 : decode cX11_readFirst 21 = .ok (.aload_n 0, 1) := by decide +kernel
theorem dX11_readFirst_22 : decode cX11_readFirst 22 = .ok (.getfield 31, 3) := by decide +kernel
theorem dX11_readFirst_25 : decode cX11_readFirst 25 = .ok (.iconst 1, 1) := by decide +kernel
theorem dX11_readFirst_26 : decode cX11_readFirst 26 = .ok (.aload_n 0, 1) := by decide +kernel
theorem dX11_readFirst_27 : decode cX11_readFirst 27 = .ok (.ldc 186, 2) := by decide +kernel
theorem dX11_readFirst_29 : decode cX11_readFirst 29 = .ok (.iconst 0, 1) := by decide +kernel
theorem dX11_readFirst_30 : decode cX11_readFirst 30 = .ok (.iconst 3, 1) := by decide +kernel
theorem dX11_readFirst_31 : decode cX11_readFirst 31 = .ok (.invokevirtual 182, 3) := by decide +kernel
theorem dX11_readFirst_34 : decode cX11_readFirst 34 = .ok (.iastore, 1) := by decide +kernel
theorem dX11_readFirst_35 : decode cX11_readFirst 35 = .ok (.aload_n 0, 1) := by decide +kernel
theorem dX11_readFirst_36 : decode cX11_readFirst 36 = .ok (.getfield 31, 3) := by decide +kernel
theorem dX11_readFirst_39 : decode cX11_readFirst 39 = .ok (.iconst 2, 1) := by decide +kernel
theorem dX11_readFirst_40 : decode cX11_readFirst 40 = .ok (.aload_n 0, 1) := by decide +kernel
theorem dX11_readFirst_41 : decode cX11_readFirst 41 = .ok (.ldc 188, 2) := by decide +kernel
theorem dX11_readFirst_43 : decode cX11_readFirst 43 = .ok (.iconst 0, 1) := by decide +kernel
theorem dX11_readFirst_44 : decode cX11_readFirst 44 = .ok (.bipush 10, 2) := by decide +kernel
theorem dX11_readFirst_46 : decode cX11_readFirst 46 = .ok (.invokevirtual 182, 3) := by decide +kernel
theorem dX11_readFirst_49 : decode cX11_readFirst 49 = .ok (.iastore, 1) := by decide +kernel
theorem dX11_readFirst_50 : decode cX11_readFirst 50 = .ok (.return_, 1) := by decide +kernel
theorem dX11_readHead_0 : decode cX11_readHead 0 = .ok (.bipush 9, 2) := by decide +kernel
theorem dX11_readHead_2 : decode cX11_readHead 2 = .ok (.aload_n 0, 1) := by decide +kernel
theorem dX11_readHead_3 : decode cX11_readHead 3 = .ok (.getfield 31, 3) := by decide +kernel
theorem dX11_readHead_6 : decode cX11_readHead 6 = .ok (.iconst 3, 1) := by decide +kernel
theorem dX11_readHead_7 : decode cX11_readHead 7 = .ok (.iaload, 1) := by decide +kernel
theorem dX11_readHead_8 : decode cX11_readHead 8 = .ok (.iadd, 1) := by decide +kernel
theorem dX11_readHead_9 : decode cX11_readHead 9 = .ok (.istore_n 1, 1) := by decide +kernel
theorem dX11_readHead_10 : decode cX11_readHead 10 = .ok (.aload_n 0, 1) := by decide +kernel
theorem dX11_readHead_11 : decode cX11_readHead 11 = .ok (.ldc 190, 2) := by decide +kernel
theorem dX11_readHead_13 : decode cX11_readHead 13 = .ok (.invokevirtual 158, 3) := by decide +kernel
theorem dX11_readHead_16 : decode cX11_readHead 16 = .ok (.ifCond .eq 30, 3) := by decide +kernel
theorem dX11_readHead_19 : decode cX11_readHead 19 = .ok (.aload_n 0, 1) := by decide +kernel
theorem dX11_readHead_20 : decode cX11_readHead 20 = .ok (.getfield 31, 3) := by decide +kernel
theorem dX11_readHead_23 : decode cX11_readHead 23 = .ok (.iload_n 1, 1) := by decide +kernel
theorem dX11_readHead_24 : decode cX11_readHead 24 = .ok (.iaload, 1) := by decide +kernel
theorem dX11_readHead_25 : decode cX11_readHead 25 = .ok (.bipush 8, 2) := by decide +kernel
theorem dX11_readHead_27 : decode cX11_readHead 27 = .ok (.if_icmp .eq 14, 3) := by decide +kernel
theorem dX11_readHead_30 : decode cX11_readHead 30 = .ok (.aload_n 0, 1) := by decide +kernel
theorem dX11_readHead_31 : decode cX11_readHead 31 = .ok (.getfield 31, 3) := by decide +kernel
theorem dX11_readHead_34 : decode cX11_readHead 34 = .ok (.iconst 4, 1) := by decide +kernel
theorem dX11_readHead_35 : decode cX11_readHead 35 = .ok (.iaload, 1) := by decide +kernel
theorem dX11_readHead_36 : decode cX11_readHead 36 = .ok (.bipush 12, 2) := by decide +kernel
theorem dX11_readHead_38 : decode cX11_readHead 38 = .ok (.if_icmp .ne 8, 3) := by decide +kernel
theorem dX11_readHead_41 : decode cX11_readHead 41 = .ok (.aload_n 0, 1) := by decide +kernel
theorem dX11_readHead_42 : decode cX11_readHead 42 = .ok (.iconst 3, 1) := by decide +kernel
theorem dX11_readHead_43 : decode cX11_readHead 43 = .ok (.invokevirtual 168, 3) := by decide +kernel
theorem dX11_readHead_46 : decode cX11_readHead 46 = .ok (.bipush 13, 2) := by decide +kernel
theorem dX11_readHead_48 : decode cX11_readHead 48 = .ok (.iconst 2, 1) := by decide +kernel
theorem dX11_readHead_49 : decode cX11_readHead 49 = .ok (.aload_n 0, 1) := by decide +kernel
theorem dX11_readHead_50 : decode cX11_readHead 50 = .ok (.getfield 31, 3) := by decide +kernel
theorem dX11_readHead_53 : decode cX11_readHead 53 = .ok (.iconst 4, 1) := by decide +kernel
theorem dX11_readHead_54 : decode cX11_readHead 54 = .ok (.iaload, 1) := by decide +kernel
theorem dX11_readHead_55 : decode cX11_readHead 55 = .ok (.imul, 1) := by decide +kernel
theorem dX11_readHead_56 : decode cX11_readHead 56 = .ok (.iadd, 1) := by decide +kernel
theorem dX11_readHead_57 : decode cX11_readHead 57 = .ok (.istore_n 2, 1) := by decide +kernel
theorem dX11_readHead_58 : decode cX11_readHead 58 = .ok (.aload_n 0, 1) := by decide +kernel
theorem dX11_readHead_59 : decode cX11_readHead 59 = .ok (.ldc 190, 2) := by decide +kernel
theorem dX11_readHead_61 : decode cX11_readHead 61 = .ok (.iconst 1, 1) := by decide +kernel
theorem dX11_readHead_62 : decode cX11_readHead 62 = .ok (.iconst 4, 1) := by decide +kernel
theorem dX11_readHead_63 : decode cX11_readHead 63 = .ok (.invokevirtual 182, 3) := by decide +kernel
theorem dX11_readHead_66 : decode cX11_readHead 66 = .ok (.istore_n 3, 1) := by decide +kernel
theorem dX11_readHead_67 : decode cX11_readHead 67 = .ok (.aload_n 0, 1) := by decide +kernel
theorem dX11_readHead_68 : decode cX11_readHead 68 = .ok (.ldc 192, 2) := by decide +kernel
theorem dX11_readHead_70 : decode cX11_readHead 70 = .ok (.invokevirtual 165, 3) := by decide +kernel
theorem dX11_readHead_73 : decode cX11_readHead 73 = .ok (.ifCond .eq 13, 3) := by decide +kernel
theorem dX11_readHead_76 : decode cX11_readHead 76 = .ok (.aload_n 0, 1) := by decide +kernel
theorem dX11_readHead_77 : decode cX11_readHead 77 = .ok (.iconst 1, 1) := by decide +kernel
theorem dX11_readHead_78 : decode cX11_readHead 78 = .ok (.bipush 16, 2) := by decide +kernel
theorem dX11_readHead_80 : decode cX11_readHead 80 = .ok (.invokevirtual 176, 3) := by decide +kernel
theorem dX11_readHead_83 : decode cX11_readHead 83 = .ok (.goto 4, 3) := by decide +kernel
theorem dX11_readHead_86 : decode cX11_readHead 86 = .ok (.iconst 0, 1) := by decide +kernel
theorem dX11_readHead_87 : decode cX11_readHead 87 = .ok (.istore 4, 2) := by decide +kernel
theorem dX11_readHead_89 : decode cX11_readHead 89 = .ok (.aload_n 0, 1) := by decide +kernel
theorem dX11_readHead_90 : decode cX11_readHead 90 = .ok (.invokevirtual 146, 3) := by decide +kernel
theorem dX11_readHead_93 : decode cX11_readHead 93 = .ok (.ifCond .ne 4, 3) := by decide +kernel
theorem dX11_readHead_96 : decode cX11_readHead 96 = .ok (.return_, 1) := by decide +kernel
theorem dX11_readHead_97 : decode cX11_readHead 97 = .ok (.aload_n 0, 1) := by decide +kernel
theorem dX11_readHead_98 : decode cX11_readHead 98 = .ok (.getfield 31, 3) := by decide +kernel
theorem dX11_readHead_101 : decode cX11_readHead 101 = .ok (.iload_n 2, 1) := by decide +kernel
theorem dX11_readHead_102 : decode cX11_readHead 102 = .ok (.iload_n 3, 1) := by decide +kernel
theorem dX11_readHead_103 : decode cX11_readHead 103 = .ok (.iastore, 1) := by decide +kernel
theorem dX11_readHead_104 : decode cX11_readHead 104 = .ok (.aload_n 0, 1) := by decide +kernel
theorem dX11_readHead_105 : decode cX11_readHead 105 = .ok (.getfield 31, 3) := by decide +kernel
theorem dX11_readHead_108 : decode cX11_readHead 108 = .ok (.iload_n 2, 1) := by decide +kernel
theorem dX11_readHead_109 : decode cX11_readHead 109 = .ok (.iconst 1, 1) := by decide +kernel
theorem dX11_readHead_110 : decode cX11_readHead 110 = .ok (.iadd, 1) := by decide +kernel
theorem dX11_readHead_111 : decode cX11_readHead 111 = .ok (.iload 4, 2) := by decide +kernel
theorem dX11_readHead_113 : decode cX11_readHead 113 = .ok (.iastore, 1) := by decide +kernel
theorem dX11_readHead_114 : decode cX11_readHead 114 = .ok (.aload_n 0, 1) := by decide +kernel
theorem dX11_readHead_115 : decode cX11_readHead 115 = .ok (.getfield 31, 3) := by decide +kernel
theorem dX11_readHead_118 : decode cX11_readHead 118 = .ok (.iload_n 1, 1) := by decide +kernel
theorem dX11_readHead_119 : decode cX11_readHead 119 = .ok (.dup2, 1) := by decide +kernel
theorem dX11_readHead_120 : decode cX11_readHead 120 = .ok (.iaload, 1) := by decide +kernel
theorem dX11_readHead_121 : decode cX11_readHead 121 = .ok (.iconst 1, 1) := by decide +kernel
theorem dX11_readHead_122 : decode cX11_readHead 122 = .ok (.iadd, 1) := by decide +kernel
theorem dX11_readHead_123 : decode cX11_readHead 123 = .ok (.iastore, 1) := by decide +kernel
theorem dX11_readHead_124 : decode cX11_readHead 124 = .ok (.aload_n 0, 1) := by decide +kernel
theorem dX11_readHead_125 : decode cX11_readHead 125 = .ok (.getfield 31, 3) := by decide +kernel
theorem dX11_readHead_128 : decode cX11_readHead 128 = .ok (.iconst 4, 1) := by decide +kernel
theorem dX11_readHead_129 : decode cX11_readHead 129 = .ok (.dup2, 1) := by decide +kernel
theorem dX11_readHead_130 : decode cX11_readHead 130 = .ok (.iaload, 1) := by decide +kernel
theorem dX11_readHead_131 : decode cX11_readHead 131 = .ok (.iconst 1, 1) := by decide +kernel
theorem dX11_readHead_132 : decode cX11_readHead 132 = .ok (.iadd, 1) := by decide +kernel
theorem dX11_readHead_133 : decode cX11_readHead 133 = .ok (.iastore, 1) := by decide +kernel
theorem dX11_readHead_134 : decode cX11_readHead 134 = .ok (.return_, 1) := by decide +kernel
theorem dX11_readRow_0 : decode cX11_readRow 0 = .ok (.aload_n 0, 1) := by decide +kernel
theorem dX11_readRow_1 : decode cX11_readRow 1 = .ok (.invokevirtual 194, 3) := by decide +kernel
theorem dX11_readRow_4 : decode cX11_readRow 4 = .ok (.aload_n 0, 1) := by decide +kernel
theorem dX11_readRow_5 : decode cX11_readRow 5 = .ok (.ldc 190, 2) := by decide +kernel
theorem dX11_readRow_7 : decode cX11_readRow 7 = .ok (.invokevirtual 158, 3) := by decide +kernel
theorem dX11_readRow_10 : decode cX11_readRow 10 = .ok (.ifCond .eq 10, 3) := by decide +kernel
theorem dX11_readRow_13 : decode cX11_readRow 13 = .ok (.aload_n 0, 1) := by decide +kernel
theorem dX11_readRow_14 : decode cX11_readRow 14 = .ok (.invokevirtual 194, 3) := by decide +kernel
theorem dX11_readRow_17 : decode cX11_readRow 17 = .ok (.goto (-13), 3) := by decide +kernel
theorem dX11_readRow_20 : decode cX11_readRow 20 = .ok (.aload_n 0, 1) := by decide +kernel
theorem dX11_readRow_21 : decode cX11_readRow 21 = .ok (.getfield 31, 3) := by decide +kernel
theorem dX11_readRow_24 : decode cX11_readRow 24 = .ok (.iconst 3, 1) := by decide +kernel
theorem dX11_readRow_25 : decode cX11_readRow 25 = .ok (.dup2, 1) := by decide +kernel
theorem dX11_readRow_26 : decode cX11_readRow 26 = .ok (.iaload, 1) := by decide +kernel
theorem dX11_readRow_27 : decode cX11_readRow 27 = .ok (.iconst 1, 1) := by decide +kernel
theorem dX11_readRow_28 : decode cX11_readRow 28 = .ok (.iadd, 1) := by decide +kernel
theorem dX11_readRow_29 : decode cX11_readRow 29 = .ok (.iastore, 1) := by decide +kernel
theorem dX11_readRow_30 : decode cX11_readRow 30 = .ok (.return_, 1) := by decide +kernel
theorem dX11_readSay_0 : decode cX11_readSay 0 = .ok (.bipush 37, 2) := by decide +kernel
theorem dX11_readSay_2 : decode cX11_readSay 2 = .ok (.iconst 3, 1) := by decide +kernel
theorem dX11_readSay_3 : decode cX11_readSay 3 = .ok (.aload_n 0, 1) := by decide +kernel
theorem dX11_readSay_4 : decode cX11_readSay 4 = .ok (.getfield 31, 3) := by decide +kernel
theorem dX11_readSay_7 : decode cX11_readSay 7 = .ok (.iconst 5, 1) := by decide +kernel
theorem dX11_readSay_8 : decode cX11_readSay 8 = .ok (.iaload, 1) := by decide +kernel
theorem dX11_readSay_9 : decode cX11_readSay 9 = .ok (.imul, 1) := by decide +kernel
theorem dX11_readSay_10 : decode cX11_readSay 10 = .ok (.iadd, 1) := by decide +kernel
theorem dX11_readSay_11 : decode cX11_readSay 11 = .ok (.istore_n 1, 1) := by decide +kernel
theorem dX11_readSay_12 : decode cX11_readSay 12 = .ok (.aload_n 0, 1) := by decide +kernel
theorem dX11_readSay_13 : decode cX11_readSay 13 = .ok (.getfield 31, 3) := by decide +kernel
theorem dX11_readSay_16 : decode cX11_readSay 16 = .ok (.iload_n 1, 1) := by decide +kernel
theorem dX11_readSay_17 : decode cX11_readSay 17 = .ok (.aload_n 0, 1) := by decide +kernel
theorem dX11_readSay_18 : decode cX11_readSay 18 = .ok (.iconst 1, 1) := by decide +kernel
theorem dX11_readSay_19 : decode cX11_readSay 19 = .ok (.iconst 2, 1) := by decide +kernel
theorem dX11_readSay_20 : decode cX11_readSay 20 = .ok (.invokevirtual 176, 3) := by decide +kernel
theorem dX11_readSay_23 : decode cX11_readSay 23 = .ok (.iastore, 1) := by decide +kernel
theorem dX11_readSay_24 : decode cX11_readSay 24 = .ok (.aload_n 0, 1) := by decide +kernel
theorem dX11_readSay_25 : decode cX11_readSay 25 = .ok (.getfield 31, 3) := by decide +kernel
theorem dX11_readSay_28 : decode cX11_readSay 28 = .ok (.iload_n 1, 1) := by decide +kernel
theorem dX11_readSay_29 : decode cX11_readSay 29 = .ok (.iconst 1, 1) := by decide +kernel
theorem dX11_readSay_30 : decode cX11_readSay 30 = .ok (.iadd, 1) := by decide +kernel
theorem dX11_readSay_31 : decode cX11_readSay 31 = .ok (.aload_n 0, 1) := by decide +kernel
theorem dX11_readSay_32 : decode cX11_readSay 32 = .ok (.ldc 197, 2) := by decide +kernel
theorem dX11_readSay_34 : decode cX11_readSay 34 = .ok (.iconst 0, 1) := by decide +kernel
theorem dX11_readSay_35 : decode cX11_readSay 35 = .ok (.aload_n 0, 1) := by decide +kernel
theorem dX11_readSay_36 : decode cX11_readSay 36 = .ok (.getfield 31, 3) := by decide +kernel
theorem dX11_readSay_39 : decode cX11_readSay 39 = .ok (.iconst 4, 1) := by decide +kernel
theorem dX11_readSay_40 : decode cX11_readSay 40 = .ok (.iaload, 1) := by decide +kernel
theorem dX11_readSay_41 : decode cX11_readSay 41 = .ok (.iconst 1, 1) := by decide +kernel
theorem dX11_readSay_42 : decode cX11_readSay 42 = .ok (.isub, 1) := by decide +kernel
theorem dX11_readSay_43 : decode cX11_readSay 43 = .ok (.invokevirtual 182, 3) := by decide +kernel
theorem dX11_readSay_46 : decode cX11_readSay 46 = .ok (.iastore, 1) := by decide +kernel
theorem dX11_readSay_47 : decode cX11_readSay 47 = .ok (.aload_n 0, 1) := by decide +kernel
theorem dX11_readSay_48 : decode cX11_readSay 48 = .ok (.getfield 31, 3) := by decide +kernel
theorem dX11_readSay_51 : decode cX11_readSay 51 = .ok (.iload_n 1, 1) := by decide +kernel
theorem dX11_readSay_52 : decode cX11_readSay 52 = .ok (.iconst 2, 1) := by decide +kernel
theorem dX11_readSay_53 : decode cX11_readSay 53 = .ok (.iadd, 1) := by decide +kernel
theorem dX11_readSay_54 : decode cX11_readSay 54 = .ok (.aload_n 0, 1) := by decide +kernel
theorem dX11_readSay_55 : decode cX11_readSay 55 = .ok (.ldc 199, 2) := by decide +kernel
theorem dX11_readSay_57 : decode cX11_readSay 57 = .ok (.iconst 0, 1) := by decide +kernel
theorem dX11_readSay_58 : decode cX11_readSay 58 = .ok (.bipush 15, 2) := by decide +kernel
theorem dX11_readSay_60 : decode cX11_readSay 60 = .ok (.invokevirtual 182, 3) := by decide +kernel
theorem dX11_readSay_63 : decode cX11_readSay 63 = .ok (.iastore, 1) := by decide +kernel
theorem dX11_readSay_64 : decode cX11_readSay 64 = .ok (.aload_n 0, 1) := by decide +kernel
theorem dX11_readSay_65 : decode cX11_readSay 65 = .ok (.getfield 31, 3) := by decide +kernel
theorem dX11_readSay_68 : decode cX11_readSay 68 = .ok (.iconst 5, 1) := by decide +kernel
theorem dX11_readSay_69 : decode cX11_readSay 69 = .ok (.dup2, 1) := by decide +kernel
theorem dX11_readSay_70 : decode cX11_readSay 70 = .ok (.iaload, 1) := by decide +kernel
theorem dX11_readSay_71 : decode cX11_readSay 71 = .ok (.iconst 1, 1) := by decide +kernel
theorem dX11_readSay_72 : decode cX11_readSay 72 = .ok (.iadd, 1) := by decide +kernel
theorem dX11_readSay_73 : decode cX11_readSay 73 = .ok (.iastore, 1) := by decide +kernel
theorem dX11_readSay_74 : decode cX11_readSay 74 = .ok (.return_, 1) := by decide +kernel
theorem dX11_readSlug_0 : decode cX11_readSlug 0 = .ok (.bipush 61, 2) := by decide +kernel
theorem dX11_readSlug_2 : decode cX11_readSlug 2 = .ok (.iconst 2, 1) := by decide +kernel
theorem dX11_readSlug_3 : decode cX11_readSlug 3 = .ok (.aload_n 0, 1) := by decide +kernel
theorem dX11_readSlug_4 : decode cX11_readSlug 4 = .ok (.getfield 31, 3) := by decide +kernel
theorem dX11_readSlug_7 : decode cX11_readSlug 7 = .ok (.bipush 6, 2) := by decide +kernel
theorem dX11_readSlug_9 : decode cX11_readSlug 9 = .ok (.iaload, 1) := by decide +kernel
theorem dX11_readSlug_10 : decode cX11_readSlug 10 = .ok (.imul, 1) := by decide +kernel
theorem dX11_readSlug_11 : decode cX11_readSlug 11 = .ok (.iadd, 1) := by decide +kernel
theorem dX11_readSlug_12 : decode cX11_readSlug 12 = .ok (.istore_n 1, 1) := by decide +kernel
theorem dX11_readSlug_13 : decode cX11_readSlug 13 = .ok (.aload_n 0, 1) := by decide +kernel
theorem dX11_readSlug_14 : decode cX11_readSlug 14 = .ok (.getfield 31, 3) := by decide +kernel
theorem dX11_readSlug_17 : decode cX11_readSlug 17 = .ok (.iload_n 1, 1) := by decide +kernel
theorem dX11_readSlug_18 : decode cX11_readSlug 18 = .ok (.aload_n 0, 1) := by decide +kernel
theorem dX11_readSlug_19 : decode cX11_readSlug 19 = .ok (.ldc 197, 2) := by decide +kernel
theorem dX11_readSlug_21 : decode cX11_readSlug 21 = .ok (.iconst 0, 1) := by decide +kernel
theorem dX11_readSlug_22 : decode cX11_readSlug 22 = .ok (.aload_n 0, 1) := by decide +kernel
theorem dX11_readSlug_23 : decode cX11_readSlug 23 = .ok (.getfield 31, 3) := by decide +kernel
theorem dX11_readSlug_26 : decode cX11_readSlug 26 = .ok (.iconst 4, 1) := by decide +kernel
theorem dX11_readSlug_27 : decode cX11_readSlug 27 = .ok (.iaload, 1) := by decide +kernel
theorem dX11_readSlug_28 : decode cX11_readSlug 28 = .ok (.iconst 1, 1) := by decide +kernel
theorem dX11_readSlug_29 : decode cX11_readSlug 29 = .ok (.isub, 1) := by decide +kernel
theorem dX11_readSlug_30 : decode cX11_readSlug 30 = .ok (.invokevirtual 182, 3) := by decide +kernel
theorem dX11_readSlug_33 : decode cX11_readSlug 33 = .ok (.iastore, 1) := by decide +kernel
theorem dX11_readSlug_34 : decode cX11_readSlug 34 = .ok (.aload_n 0, 1) := by decide +kernel
theorem dX11_readSlug_35 : decode cX11_readSlug 35 = .ok (.getfield 31, 3) := by decide +kernel
theorem dX11_readSlug_38 : decode cX11_readSlug 38 = .ok (.iload_n 1, 1) := by decide +kernel
theorem dX11_readSlug_39 : decode cX11_readSlug 39 = .ok (.iconst 1, 1) := by decide +kernel
theorem dX11_readSlug_40 : decode cX11_readSlug 40 = .ok (.iadd, 1) := by decide +kernel
theorem dX11_readSlug_41 : decode cX11_readSlug 41 = .ok (.aload_n 0, 1) := by decide +kernel
theorem dX11_readSlug_42 : decode cX11_readSlug 42 = .ok (.ldc 199, 2) := by decide +kernel
theorem dX11_readSlug_44 : decode cX11_readSlug 44 = .ok (.iconst 0, 1) := by decide +kernel
theorem dX11_readSlug_45 : decode cX11_readSlug 45 = .ok (.bipush 15, 2) := by decide +kernel
theorem dX11_readSlug_47 : decode cX11_readSlug 47 = .ok (.invokevirtual 182, 3) := by decide +kernel
theorem dX11_readSlug_50 : decode cX11_readSlug 50 = .ok (.iastore, 1) := by decide +kernel
theorem dX11_readSlug_51 : decode cX11_readSlug 51 = .ok (.aload_n 0, 1) := by decide +kernel
theorem dX11_readSlug_52 : decode cX11_readSlug 52 = .ok (.getfield 31, 3) := by decide +kernel
theorem dX11_readSlug_55 : decode cX11_readSlug 55 = .ok (.bipush 6, 2) := by decide +kernel
theorem dX11_readSlug_57 : decode cX11_readSlug 57 = .ok (.dup2, 1) := by decide +kernel
theorem dX11_readSlug_58 : decode cX11_readSlug 58 = .ok (.iaload, 1) := by decide +kernel
theorem dX11_readSlug_59 : decode cX11_readSlug 59 = .ok (.iconst 1, 1) := by decide +kernel
theorem dX11_readSlug_60 : decode cX11_readSlug 60 = .ok (.iadd, 1) := by decide +kernel
theorem dX11_readSlug_61 : decode cX11_readSlug 61 = .ok (.iastore, 1) := by decide +kernel
theorem dX11_readSlug_62 : decode cX11_readSlug 62 = .ok (.return_, 1) := by decide +kernel
theorem dX11_isFull_0 : decode cX11_isFull 0 = .ok (.aload_n 0, 1) := by decide +kernel
theorem dX11_isFull_1 : decode cX11_isFull 1 = .ok (.ldc 200, 2) := by decide +kernel
theorem dX11_isFull_3 : decode cX11_isFull 3 = .ok (.invokevirtual 158, 3) := by decide +kernel
theorem dX11_isFull_6 : decode cX11_isFull 6 = .ok (.ifCond .eq 13, 3) := by decide +kernel
theorem dX11_isFull_9 : decode cX11_isFull 9 = .ok (.aload_n 0, 1) := by decide +kernel
theorem dX11_isFull_10 : decode cX11_isFull 10 = .ok (.getfield 31, 3) := by decide +kernel
theorem dX11_isFull_13 : decode cX11_isFull 13 = .ok (.iconst 3, 1) := by decide +kernel
theorem dX11_isFull_14 : decode cX11_isFull 14 = .ok (.iaload, 1) := by decide +kernel
theorem dX11_isFull_15 : decode cX11_isFull 15 = .ok (.iconst 4, 1) := by decide +kernel
theorem dX11_isFull_16 : decode cX11_isFull 16 = .ok (.if_icmp .eq 43, 3) := by decide +kernel
theorem dX11_isFull_19 : decode cX11_isFull 19 = .ok (.aload_n 0, 1) := by decide +kernel
theorem dX11_isFull_20 : decode cX11_isFull 20 = .ok (.ldc 202, 2) := by decide +kernel
theorem dX11_isFull_22 : decode cX11_isFull 22 = .ok (.invokevirtual 158, 3) := by decide +kernel
theorem dX11_isFull_25 : decode cX11_isFull 25 = .ok (.ifCond .eq 14, 3) := by decide +kernel
theorem dX11_isFull_28 : decode cX11_isFull 28 = .ok (.aload_n 0, 1) := by decide +kernel
theorem dX11_isFull_29 : decode cX11_isFull 29 = .ok (.getfield 31, 3) := by decide +kernel
theorem dX11_isFull_32 : decode cX11_isFull 32 = .ok (.iconst 5, 1) := by decide +kernel
theorem dX11_isFull_33 : decode cX11_isFull 33 = .ok (.iaload, 1) := by decide +kernel
theorem dX11_isFull_34 : decode cX11_isFull 34 = .ok (.bipush 8, 2) := by decide +kernel
theorem dX11_isFull_36 : decode cX11_isFull 36 = .ok (.if_icmp .eq 23, 3) := by decide +kernel
theorem dX11_isFull_39 : decode cX11_isFull 39 = .ok (.aload_n 0, 1) := by decide +kernel
theorem dX11_isFull_40 : decode cX11_isFull 40 = .ok (.ldc 204, 2) := by decide +kernel
theorem dX11_isFull_42 : decode cX11_isFull 42 = .ok (.invokevirtual 158, 3) := by decide +kernel
theorem dX11_isFull_45 : decode cX11_isFull 45 = .ok (.ifCond .eq 18, 3) := by decide +kernel
theorem dX11_isFull_48 : decode cX11_isFull 48 = .ok (.aload_n 0, 1) := by decide +kernel
theorem dX11_isFull_49 : decode cX11_isFull 49 = .ok (.getfield 31, 3) := by decide +kernel
theorem dX11_isFull_52 : decode cX11_isFull 52 = .ok (.bipush 6, 2) := by decide +kernel
theorem dX11_isFull_54 : decode cX11_isFull 54 = .ok (.iaload, 1) := by decide +kernel
theorem dX11_isFull_55 : decode cX11_isFull 55 = .ok (.iconst 4, 1) := by decide +kernel
theorem dX11_isFull_56 : decode cX11_isFull 56 = .ok (.if_icmp .ne 7, 3) := by decide +kernel
theorem dX11_isFull_59 : decode cX11_isFull 59 = .ok (.iconst 1, 1) := by decide +kernel
theorem dX11_isFull_60 : decode cX11_isFull 60 = .ok (.goto 4, 3) := by decide +kernel
theorem dX11_isFull_63 : decode cX11_isFull 63 = .ok (.iconst 0, 1) := by decide +kernel
theorem dX11_isFull_64 : decode cX11_isFull 64 = .ok (.ireturn, 1) := by decide +kernel
theorem dX11_readNext_0 : decode cX11_readNext 0 = .ok (.aload_n 0, 1) := by decide +kernel
theorem dX11_readNext_1 : decode cX11_readNext 1 = .ok (.ldc 200, 2) := by decide +kernel
theorem dX11_readNext_3 : decode cX11_readNext 3 = .ok (.invokevirtual 158, 3) := by decide +kernel
theorem dX11_readNext_6 : decode cX11_readNext 6 = .ok (.ifCond .ne 21, 3) := by decide +kernel
theorem dX11_readNext_9 : decode cX11_readNext 9 = .ok (.aload_n 0, 1) := by decide +kernel
theorem dX11_readNext_10 : decode cX11_readNext 10 = .ok (.ldc 202, 2) := by decide +kernel
theorem dX11_readNext_12 : decode cX11_readNext 12 = .ok (.invokevirtual 158, 3) := by decide +kernel
theorem dX11_readNext_15 : decode cX11_readNext 15 = .ok (.ifCond .ne 12, 3) := by decide +kernel
theorem dX11_readNext_18 : decode cX11_readNext 18 = .ok (.aload_n 0, 1) := by decide +kernel
theorem dX11_readNext_19 : decode cX11_readNext 19 = .ok (.ldc 204, 2) := by decide +kernel
theorem dX11_readNext_21 : decode cX11_readNext 21 = .ok (.invokevirtual 158, 3) := by decide +kernel
theorem dX11_readNext_24 : decode cX11_readNext 24 = .ok (.ifCond .eq 7, 3) := by decide +kernel
theorem dX11_readNext_27 : decode cX11_readNext 27 = .ok (.iconst 1, 1) := by decide +kernel
theorem dX11_readNext_28 : decode cX11_readNext 28 = .ok (.goto 4, 3) := by decide +kernel
theorem dX11_readNext_31 : decode cX11_readNext 31 = .ok (.iconst 0, 1) := by decide +kernel
theorem dX11_readNext_32 : decode cX11_readNext 32 = .ok (.istore_n 1, 1) := by decide +kernel
theorem dX11_readNext_33 : decode cX11_readNext 33 = .ok (.iload_n 1, 1) := by decide +kernel
theorem dX11_readNext_34 : decode cX11_readNext 34 = .ok (.ifCond .eq 29, 3) := by decide +kernel
theorem dX11_readNext_37 : decode cX11_readNext 37 = .ok (.aload_n 0, 1) := by decide +kernel
theorem dX11_readNext_38 : decode cX11_readNext 38 = .ok (.ldc 200, 2) := by decide +kernel
theorem dX11_readNext_40 : decode cX11_readNext 40 = .ok (.invokevirtual 158, 3) := by decide +kernel
theorem dX11_readNext_43 : decode cX11_readNext 43 = .ok (.ifCond .eq 25, 3) := by decide +kernel
theorem dX11_readNext_46 : decode cX11_readNext 46 = .ok (.aload_n 0, 1) := by decide +kernel
theorem dX11_readNext_47 : decode cX11_readNext 47 = .ok (.getfield 31, 3) := by decide +kernel
theorem dX11_readNext_50 : decode cX11_readNext 50 = .ok (.iconst 5, 1) := by decide +kernel
theorem dX11_readNext_51 : decode cX11_readNext 51 = .ok (.iaload, 1) := by decide +kernel
theorem dX11_readNext_52 : decode cX11_readNext 52 = .ok (.aload_n 0, 1) := by decide +kernel
theorem dX11_readNext_53 : decode cX11_readNext 53 = .ok (.getfield 31, 3) := by decide +kernel
theorem dX11_readNext_56 : decode cX11_readNext 56 = .ok (.bipush 6, 2) := by decide +kernel
theorem dX11_readNext_58 : decode cX11_readNext 58 = .ok (.iaload, 1) := by decide +kernel
theorem dX11_readNext_59 : decode cX11_readNext 59 = .ok (.iadd, 1) := by decide +kernel
theorem dX11_readNext_60 : decode cX11_readNext 60 = .ok (.ifCond .le 8, 3) := by decide +kernel
theorem dX11_readNext_63 : decode cX11_readNext 63 = .ok (.aload_n 0, 1) := by decide +kernel
theorem dX11_readNext_64 : decode cX11_readNext 64 = .ok (.iconst 1, 1) := by decide +kernel
theorem dX11_readNext_65 : decode cX11_readNext 65 = .ok (.invokevirtual 168, 3) := by decide +kernel
theorem dX11_readNext_68 : decode cX11_readNext 68 = .ok (.aload_n 0, 1) := by decide +kernel
theorem dX11_readNext_69 : decode cX11_readNext 69 = .ok (.invokevirtual 206, 3) := by decide +kernel
theorem dX11_readNext_72 : decode cX11_readNext 72 = .ok (.ifCond .eq 8, 3) := by decide +kernel
theorem dX11_readNext_75 : decode cX11_readNext 75 = .ok (.aload_n 0, 1) := by decide +kernel
theorem dX11_readNext_76 : decode cX11_readNext 76 = .ok (.iconst 3, 1) := by decide +kernel
theorem dX11_readNext_77 : decode cX11_readNext 77 = .ok (.invokevirtual 168, 3) := by decide +kernel
theorem dX11_readNext_80 : decode cX11_readNext 80 = .ok (.aload_n 0, 1) := by decide +kernel
theorem dX11_readNext_81 : decode cX11_readNext 81 = .ok (.invokevirtual 146, 3) := by decide +kernel
theorem dX11_readNext_84 : decode cX11_readNext 84 = .ok (.ifCond .ne 4, 3) := by decide +kernel
theorem dX11_readNext_87 : decode cX11_readNext 87 = .ok (.return_, 1) := by decide +kernel
theorem dX11_readNext_88 : decode cX11_readNext 88 = .ok (.aload_n 0, 1) := by decide +kernel
theorem dX11_readNext_89 : decode cX11_readNext 89 = .ok (.ldc 200, 2) := by decide +kernel
theorem dX11_readNext_91 : decode cX11_readNext 91 = .ok (.invokevirtual 165, 3) := by decide +kernel
theorem dX11_readNext_94 : decode cX11_readNext 94 = .ok (.ifCond .eq 10, 3) := by decide +kernel
theorem dX11_readNext_97 : decode cX11_readNext 97 = .ok (.aload_n 0, 1) := by decide +kernel
theorem dX11_readNext_98 : decode cX11_readNext 98 = .ok (.invokevirtual 209, 3) := by decide +kernel
theorem dX11_readNext_101 : decode cX11_readNext 101 = .ok (.goto 27, 3) := by decide +kernel
theorem dX11_readNext_104 : decode cX11_readNext 104 = .ok (.aload_n 0, 1) := by decide +kernel
theorem dX11_readNext_105 : decode cX11_readNext 105 = .ok (.ldc 202, 2) := by decide +kernel
theorem dX11_readNext_107 : decode cX11_readNext 107 = .ok (.invokevirtual 165, 3) := by decide +kernel
theorem dX11_readNext_110 : decode cX11_readNext 110 = .ok (.ifCond .eq 10, 3) := by decide +kernel
theorem dX11_readNext_113 : decode cX11_readNext 113 = .ok (.aload_n 0, 1) := by decide +kernel
theorem dX11_readNext_114 : decode cX11_readNext 114 = .ok (.invokevirtual 212, 3) := by decide +kernel
theorem dX11_readNext_117 : decode cX11_readNext 117 = .ok (.goto 11, 3) := by decide +kernel
theorem dX11_readNext_120 : decode cX11_readNext 120 = .ok (.aload_n 0, 1) := by decide +kernel
theorem dX11_readNext_121 : decode cX11_readNext 121 = .ok (.invokevirtual 162, 3) := by decide +kernel
theorem dX11_readNext_124 : decode cX11_readNext 124 = .ok (.aload_n 0, 1) := by decide +kernel
theorem dX11_readNext_125 : decode cX11_readNext 125 = .ok (.invokevirtual 215, 3) := by decide +kernel
theorem dX11_readNext_128 : decode cX11_readNext 128 = .ok (.return_, 1) := by decide +kernel
theorem dX11_readLine_0 : decode cX11_readLine 0 = .ok (.aload_n 0, 1) := by decide +kernel
theorem dX11_readLine_1 : decode cX11_readLine 1 = .ok (.getfield 31, 3) := by decide +kernel
theorem dX11_readLine_4 : decode cX11_readLine 4 = .ok (.bipush 8, 2) := by decide +kernel
theorem dX11_readLine_6 : decode cX11_readLine 6 = .ok (.iaload, 1) := by decide +kernel
theorem dX11_readLine_7 : decode cX11_readLine 7 = .ok (.ifCond .ne 10, 3) := by decide +kernel
theorem dX11_readLine_10 : decode cX11_readLine 10 = .ok (.aload_n 0, 1) := by decide +kernel
theorem dX11_readLine_11 : decode cX11_readLine 11 = .ok (.invokevirtual 218, 3) := by decide +kernel
theorem dX11_readLine_14 : decode cX11_readLine 14 = .ok (.goto 7, 3) := by decide +kernel
theorem dX11_readLine_17 : decode cX11_readLine 17 = .ok (.aload_n 0, 1) := by decide +kernel
theorem dX11_readLine_18 : decode cX11_readLine 18 = .ok (.invokevirtual 221, 3) := by decide +kernel
theorem dX11_readLine_21 : decode cX11_readLine 21 = .ok (.aload_n 0, 1) := by decide +kernel
theorem dX11_readLine_22 : decode cX11_readLine 22 = .ok (.invokevirtual 146, 3) := by decide +kernel
theorem dX11_readLine_25 : decode cX11_readLine 25 = .ok (.ifCond .eq 16, 3) := by decide +kernel
theorem dX11_readLine_28 : decode cX11_readLine 28 = .ok (.aload_n 0, 1) := by decide +kernel
theorem dX11_readLine_29 : decode cX11_readLine 29 = .ok (.getfield 122, 3) := by decide +kernel
theorem dX11_readLine_32 : decode cX11_readLine 32 = .ok (.iconst 3, 1) := by decide +kernel
theorem dX11_readLine_33 : decode cX11_readLine 33 = .ok (.if_icmp .eq 8, 3) := by decide +kernel
theorem dX11_readLine_36 : decode cX11_readLine 36 = .ok (.aload_n 0, 1) := by decide +kernel
theorem dX11_readLine_37 : decode cX11_readLine 37 = .ok (.iconst 1, 1) := by decide +kernel
theorem dX11_readLine_38 : decode cX11_readLine 38 = .ok (.invokevirtual 168, 3) := by decide +kernel
theorem dX11_readLine_41 : decode cX11_readLine 41 = .ok (.aload_n 0, 1) := by decide +kernel
theorem dX11_readLine_42 : decode cX11_readLine 42 = .ok (.invokevirtual 146, 3) := by decide +kernel
theorem dX11_readLine_45 : decode cX11_readLine 45 = .ok (.ifCond .eq 7, 3) := by decide +kernel
theorem dX11_readLine_48 : decode cX11_readLine 48 = .ok (.aload_n 0, 1) := by decide +kernel
theorem dX11_readLine_49 : decode cX11_readLine 49 = .ok (.invokevirtual 162, 3) := by decide +kernel
theorem dX11_readLine_52 : decode cX11_readLine 52 = .ok (.aload_n 0, 1) := by decide +kernel
theorem dX11_readLine_53 : decode cX11_readLine 53 = .ok (.getfield 31, 3) := by decide +kernel
theorem dX11_readLine_56 : decode cX11_readLine 56 = .ok (.bipush 8, 2) := by decide +kernel
theorem dX11_readLine_58 : decode cX11_readLine 58 = .ok (.dup2, 1) := by decide +kernel
theorem dX11_readLine_59 : decode cX11_readLine 59 = .ok (.iaload, 1) := by decide +kernel
theorem dX11_readLine_60 : decode cX11_readLine 60 = .ok (.iconst 1, 1) := by decide +kernel
theorem dX11_readLine_61 : decode cX11_readLine 61 = .ok (.iadd, 1) := by decide +kernel
theorem dX11_readLine_62 : decode cX11_readLine 62 = .ok (.iastore, 1) := by decide +kernel
theorem dX11_readLine_63 : decode cX11_readLine 63 = .ok (.return_, 1) := by decide +kernel
theorem dX11_garden_0 : decode cX11_garden 0 = .ok (.aload_n 0, 1) := by decide +kernel
theorem dX11_garden_1 : decode cX11_garden 1 = .ok (.aload_n 0, 1) := by decide +kernel
theorem dX11_garden_2 : decode cX11_garden 2 = .ok (.getfield 106, 3) := by decide +kernel
theorem dX11_garden_5 : decode cX11_garden 5 = .ok (.putfield 109, 3) := by decide +kernel
theorem dX11_garden_8 : decode cX11_garden 8 = .ok (.aload_n 0, 1) := by decide +kernel
theorem dX11_garden_9 : decode cX11_garden 9 = .ok (.iconst 0, 1) := by decide +kernel
theorem dX11_garden_10 : decode cX11_garden 10 = .ok (.putfield 106, 3) := by decide +kernel
theorem dX11_garden_13 : decode cX11_garden 13 = .ok (.aload_n 0, 1) := by decide +kernel
theorem dX11_garden_14 : decode cX11_garden 14 = .ok (.iconst 0, 1) := by decide +kernel
theorem dX11_garden_15 : decode cX11_garden 15 = .ok (.putfield 112, 3) := by decide +kernel
theorem dX11_garden_18 : decode cX11_garden 18 = .ok (.aload_n 0, 1) := by decide +kernel
theorem dX11_garden_19 : decode cX11_garden 19 = .ok (.iconst 0, 1) := by decide +kernel
theorem dX11_garden_20 : decode cX11_garden 20 = .ok (.putfield 143, 3) := by decide +kernel
theorem dX11_garden_23 : decode cX11_garden 23 = .ok (.aload_n 0, 1) := by decide +kernel
theorem dX11_garden_24 : decode cX11_garden 24 = .ok (.iconst (-1), 1) := by decide +kernel
theorem dX11_garden_25 : decode cX11_garden 25 = .ok (.putfield 27, 3) := by decide +kernel
theorem dX11_garden_28 : decode cX11_garden 28 = .ok (.iconst 0, 1) := by decide +kernel
theorem dX11_garden_29 : decode cX11_garden 29 = .ok (.istore_n 1, 1) := by decide +kernel
theorem dX11_garden_30 : decode cX11_garden 30 = .ok (.iload_n 1, 1) := by decide +kernel
theorem dX11_garden_31 : decode cX11_garden 31 = .ok (.bipush 99, 2) := by decide +kernel
theorem dX11_garden_33 : decode cX11_garden 33 = .ok (.if_icmp .ge 16, 3) := by decide +kernel
theorem dX11_garden_36 : decode cX11_garden 36 = .ok (.aload_n 0, 1) := by decide +kernel
theorem dX11_garden_37 : decode cX11_garden 37 = .ok (.getfield 31, 3) := by decide +kernel
theorem dX11_garden_40 : decode cX11_garden 40 = .ok (.iload_n 1, 1) := by decide +kernel
theorem dX11_garden_41 : decode cX11_garden 41 = .ok (.iconst 0, 1) := by decide +kernel
theorem dX11_garden_42 : decode cX11_garden 42 = .ok (.iastore, 1) := by decide +kernel
theorem dX11_garden_43 : decode cX11_garden 43 = .ok (.iinc 1 1, 3) := by decide +kernel
theorem dX11_garden_46 : decode cX11_garden 46 = .ok (.goto (-16), 3) := by decide +kernel
theorem dX11_garden_49 : decode cX11_garden 49 = .ok (.aload_n 0, 1) := by decide +kernel
theorem dX11_garden_50 : decode cX11_garden 50 = .ok (.invokevirtual 162, 3) := by decide +kernel
theorem dX11_garden_53 : decode cX11_garden 53 = .ok (.aload_n 0, 1) := by decide +kernel
theorem dX11_garden_54 : decode cX11_garden 54 = .ok (.invokevirtual 146, 3) := by decide +kernel
theorem dX11_garden_57 : decode cX11_garden 57 = .ok (.ifCond .eq 17, 3) := by decide +kernel
theorem dX11_garden_60 : decode cX11_garden 60 = .ok (.aload_n 0, 1) := by decide +kernel
theorem dX11_garden_61 : decode cX11_garden 61 = .ok (.getfield 122, 3) := by decide +kernel
theorem dX11_garden_64 : decode cX11_garden 64 = .ok (.ifCond .eq 10, 3) := by decide +kernel
theorem dX11_garden_67 : decode cX11_garden 67 = .ok (.aload_n 0, 1) := by decide +kernel
theorem dX11_garden_68 : decode cX11_garden 68 = .ok (.invokevirtual 224, 3) := by decide +kernel
theorem dX11_garden_71 : decode cX11_garden 71 = .ok (.goto (-18), 3) := by decide +kernel
theorem dX11_garden_74 : decode cX11_garden 74 = .ok (.aload_n 0, 1) := by decide +kernel
theorem dX11_garden_75 : decode cX11_garden 75 = .ok (.invokevirtual 146, 3) := by decide +kernel
theorem dX11_garden_78 : decode cX11_garden 78 = .ok (.ifCond .ne 6, 3) := by decide +kernel
theorem dX11_garden_81 : decode cX11_garden 81 = .ok (.bipush (-4), 2) := by decide +kernel
theorem dX11_garden_83 : decode cX11_garden 83 = .ok (.ireturn, 1) := by decide +kernel
theorem dX11_garden_84 : decode cX11_garden 84 = .ok (.iconst 0, 1) := by decide +kernel
theorem dX11_garden_85 : decode cX11_garden 85 = .ok (.istore_n 1, 1) := by decide +kernel
theorem dX11_garden_86 : decode cX11_garden 86 = .ok (.iload_n 1, 1) := by decide +kernel
theorem dX11_garden_87 : decode cX11_garden 87 = .ok (.bipush 99, 2) := by decide +kernel
theorem dX11_garden_89 : decode cX11_garden 89 = .ok (.if_icmp .ge 21, 3) := by decide +kernel
theorem dX11_garden_92 : decode cX11_garden 92 = .ok (.aload_n 0, 1) := by decide +kernel
theorem dX11_garden_93 : decode cX11_garden 93 = .ok (.getfield 9, 3) := by decide +kernel
theorem dX11_garden_96 : decode cX11_garden 96 = .ok (.iload_n 1, 1) := by decide +kernel
theorem dX11_garden_97 : decode cX11_garden 97 = .ok (.aload_n 0, 1) := by decide +kernel
theorem dX11_garden_98 : decode cX11_garden 98 = .ok (.getfield 31, 3) := by decide +kernel
theorem dX11_garden_101 : decode cX11_garden 101 = .ok (.iload_n 1, 1) := by decide +kernel
theorem dX11_garden_102 : decode cX11_garden 102 = .ok (.iaload, 1) := by decide +kernel
theorem dX11_garden_103 : decode cX11_garden 103 = .ok (.iastore, 1) := by decide +kernel
theorem dX11_garden_104 : decode cX11_garden 104 = .ok (.iinc 1 1, 3) := by decide +kernel
theorem dX11_garden_107 : decode cX11_garden 107 = .ok (.goto (-21), 3) := by decide +kernel
theorem dX11_garden_110 : decode cX11_garden 110 = .ok (.aload_n 0, 1) := by decide +kernel
theorem dX11_garden_111 : decode cX11_garden 111 = .ok (.getfield 9, 3) := by decide +kernel
theorem dX11_garden_114 : decode cX11_garden 114 = .ok (.bipush 8, 2) := by decide +kernel
theorem dX11_garden_116 : decode cX11_garden 116 = .ok (.iaload, 1) := by decide +kernel
theorem dX11_garden_117 : decode cX11_garden 117 = .ok (.ireturn, 1) := by decide +kernel
theorem dX11_feed_0 : decode cX11_feed 0 = .ok (.aload_n 0, 1) := by decide +kernel
theorem dX11_feed_1 : decode cX11_feed 1 = .ok (.getfield 106, 3) := by decide +kernel
theorem dX11_feed_4 : decode cX11_feed 4 = .ok (.bipush 20, 2) := by decide +kernel
theorem dX11_feed_6 : decode cX11_feed 6 = .ok (.iadd, 1) := by decide +kernel
theorem dX11_feed_7 : decode cX11_feed 7 = .ok (.sipush 600, 3) := by decide +kernel
theorem dX11_feed_10 : decode cX11_feed 10 = .ok (.if_icmp .le 5, 3) := by decide +kernel
theorem dX11_feed_13 : decode cX11_feed 13 = .ok (.iconst (-1), 1) := by decide +kernel
theorem dX11_feed_14 : decode cX11_feed 14 = .ok (.ireturn, 1) := by decide +kernel
theorem dX11_feed_15 : decode cX11_feed 15 = .ok (.aload_n 0, 1) := by decide +kernel
theorem dX11_feed_16 : decode cX11_feed 16 = .ok (.getfield 24, 3) := by decide +kernel
theorem dX11_feed_19 : decode cX11_feed 19 = .ok (.iconst 0, 1) := by decide +kernel
theorem dX11_feed_20 : decode cX11_feed 20 = .ok (.iload_n 1, 1) := by decide +kernel
theorem dX11_feed_21 : decode cX11_feed 21 = .ok (.iastore, 1) := by decide +kernel
theorem dX11_feed_22 : decode cX11_feed 22 = .ok (.aload_n 0, 1) := by decide +kernel
theorem dX11_feed_23 : decode cX11_feed 23 = .ok (.getfield 24, 3) := by decide +kernel
theorem dX11_feed_26 : decode cX11_feed 26 = .ok (.iconst 1, 1) := by decide +kernel
theorem dX11_feed_27 : decode cX11_feed 27 = .ok (.iload_n 2, 1) := by decide +kernel
theorem dX11_feed_28 : decode cX11_feed 28 = .ok (.iastore, 1) := by decide +kernel
theorem dX11_feed_29 : decode cX11_feed 29 = .ok (.aload_n 0, 1) := by decide +kernel
theorem dX11_feed_30 : decode cX11_feed 30 = .ok (.getfield 24, 3) := by decide +kernel
theorem dX11_feed_33 : decode cX11_feed 33 = .ok (.iconst 2, 1) := by decide +kernel
theorem dX11_feed_34 : decode cX11_feed 34 = .ok (.iload_n 3, 1) := by decide +kernel
theorem dX11_feed_35 : decode cX11_feed 35 = .ok (.iastore, 1) := by decide +kernel
theorem dX11_feed_36 : decode cX11_feed 36 = .ok (.aload_n 0, 1) := by decide +kernel
theorem dX11_feed_37 : decode cX11_feed 37 = .ok (.getfield 24, 3) := by decide +kernel
theorem dX11_feed_40 : decode cX11_feed 40 = .ok (.iconst 3, 1) := by decide +kernel
theorem dX11_feed_41 : decode cX11_feed 41 = .ok (.iload 4, 2) := by decide +kernel
theorem dX11_feed_43 : decode cX11_feed 43 = .ok (.iastore, 1) := by decide +kernel
theorem dX11_feed_44 : decode cX11_feed 44 = .ok (.aload_n 0, 1) := by decide +kernel
theorem dX11_feed_45 : decode cX11_feed 45 = .ok (.getfield 24, 3) := by decide +kernel
theorem dX11_feed_48 : decode cX11_feed 48 = .ok (.iconst 4, 1) := by decide +kernel
theorem dX11_feed_49 : decode cX11_feed 49 = .ok (.iload 5, 2) := by decide +kernel
theorem dX11_feed_51 : decode cX11_feed 51 = .ok (.iastore, 1) := by decide +kernel
theorem dX11_feed_52 : decode cX11_feed 52 = .ok (.iconst 0, 1) := by decide +kernel
theorem dX11_feed_53 : decode cX11_feed 53 = .ok (.istore 6, 2) := by decide +kernel
theorem dX11_feed_55 : decode cX11_feed 55 = .ok (.iload 6, 2) := by decide +kernel
theorem dX11_feed_57 : decode cX11_feed 57 = .ok (.bipush 20, 2) := by decide +kernel
theorem dX11_feed_59 : decode cX11_feed 59 = .ok (.if_icmp .ge 42, 3) := by decide +kernel
theorem dX11_feed_62 : decode cX11_feed 62 = .ok (.aload_n 0, 1) := by decide +kernel
theorem dX11_feed_63 : decode cX11_feed 63 = .ok (.getfield 20, 3) := by decide +kernel
theorem dX11_feed_66 : decode cX11_feed 66 = .ok (.aload_n 0, 1) := by decide +kernel
theorem dX11_feed_67 : decode cX11_feed 67 = .ok (.getfield 106, 3) := by decide +kernel
theorem dX11_feed_70 : decode cX11_feed 70 = .ok (.iload 6, 2) := by decide +kernel
theorem dX11_feed_72 : decode cX11_feed 72 = .ok (.iadd, 1) := by decide +kernel
theorem dX11_feed_73 : decode cX11_feed 73 = .ok (.aload_n 0, 1) := by decide +kernel
theorem dX11_feed_74 : decode cX11_feed 74 = .ok (.getfield 24, 3) := by decide +kernel
theorem dX11_feed_77 : decode cX11_feed 77 = .ok (.iload 6, 2) := by decide +kernel
theorem dX11_feed_79 : decode cX11_feed 79 = .ok (.iconst 4, 1) := by decide +kernel
theorem dX11_feed_80 : decode cX11_feed 80 = .ok (.idiv, 1) := by decide +kernel
theorem dX11_feed_81 : decode cX11_feed 81 = .ok (.iaload, 1) := by decide +kernel
theorem dX11_feed_82 : decode cX11_feed 82 = .ok (.bipush 24, 2) := by decide +kernel
theorem dX11_feed_84 : decode cX11_feed 84 = .ok (.bipush 8, 2) := by decide +kernel
theorem dX11_feed_86 : decode cX11_feed 86 = .ok (.iload 6, 2) := by decide +kernel
theorem dX11_feed_88 : decode cX11_feed 88 = .ok (.iconst 4, 1) := by decide +kernel
theorem dX11_feed_89 : decode cX11_feed 89 = .ok (.irem, 1) := by decide +kernel
theorem dX11_feed_90 : decode cX11_feed 90 = .ok (.imul, 1) := by decide +kernel
theorem dX11_feed_91 : decode cX11_feed 91 = .ok (.isub, 1) := by decide +kernel
theorem dX11_feed_92 : decode cX11_feed 92 = .ok (.ishr, 1) := by decide +kernel
theorem dX11_feed_93 : decode cX11_feed 93 = .ok (.i2b, 1) := by decide +kernel
theorem dX11_feed_94 : decode cX11_feed 94 = .ok (.bastore, 1) := by decide +kernel
theorem dX11_feed_95 : decode cX11_feed 95 = .ok (.iinc 6 1, 3) := by decide +kernel
theorem dX11_feed_98 : decode cX11_feed 98 = .ok (.goto (-43), 3) := by decide +kernel
theorem dX11_feed_101 : decode cX11_feed 101 = .ok (.aload_n 0, 1) := by decide +kernel
theorem dX11_feed_102 : decode cX11_feed 102 = .ok (.dup, 1) := by decide +kernel
theorem dX11_feed_103 : decode cX11_feed 103 = .ok (.getfield 106, 3) := by decide +kernel
theorem dX11_feed_106 : decode cX11_feed 106 = .ok (.bipush 20, 2) := by decide +kernel
theorem dX11_feed_108 : decode cX11_feed 108 = .ok (.iadd, 1) := by decide +kernel
theorem dX11_feed_109 : decode cX11_feed 109 = .ok (.putfield 106, 3) := by decide +kernel
theorem dX11_feed_112 : decode cX11_feed 112 = .ok (.aload_n 0, 1) := by decide +kernel
theorem dX11_feed_113 : decode cX11_feed 113 = .ok (.getfield 106, 3) := by decide +kernel
theorem dX11_feed_116 : decode cX11_feed 116 = .ok (.ireturn, 1) := by decide +kernel
theorem dX11_end_0 : decode cX11_end 0 = .ok (.iload_n 1, 1) := by decide +kernel
theorem dX11_end_1 : decode cX11_end 1 = .ok (.i2l, 1) := by decide +kernel
theorem dX11_end_2 : decode cX11_end 2 = .ok (.lconst 0, 1) := by decide +kernel
theorem dX11_end_3 : decode cX11_end 3 = .ok (.aload_n 0, 1) := by decide +kernel
theorem dX11_end_4 : decode cX11_end 4 = .ok (.getfield 106, 3) := by decide +kernel
theorem dX11_end_7 : decode cX11_end 7 = .ok (.i2l, 1) := by decide +kernel
theorem dX11_end_8 : decode cX11_end 8 = .ok (.invokestatic 91, 3) := by decide +kernel
theorem dX11_end_11 : decode cX11_end 11 = .ok (.ifCond .ne 5, 3) := by decide +kernel
theorem dX11_end_14 : decode cX11_end 14 = .ok (.iconst (-1), 1) := by decide +kernel
theorem dX11_end_15 : decode cX11_end 15 = .ok (.ireturn, 1) := by decide +kernel
theorem dX11_end_16 : decode cX11_end 16 = .ok (.aload_n 0, 1) := by decide +kernel
theorem dX11_end_17 : decode cX11_end 17 = .ok (.iload_n 1, 1) := by decide +kernel
theorem dX11_end_18 : decode cX11_end 18 = .ok (.putfield 106, 3) := by decide +kernel
theorem dX11_end_21 : decode cX11_end 21 = .ok (.iload_n 1, 1) := by decide +kernel
theorem dX11_end_22 : decode cX11_end 22 = .ok (.ireturn, 1) := by decide +kernel
theorem dX11_fault_0 : decode cX11_fault 0 = .ok (.iload_n 1, 1) := by decide +kernel
theorem dX11_fault_1 : decode cX11_fault 1 = .ok (.ifCond .ne 10, 3) := by decide +kernel
theorem dX11_fault_4 : decode cX11_fault 4 = .ok (.aload_n 0, 1) := by decide +kernel
theorem dX11_fault_5 : decode cX11_fault 5 = .ok (.getfield 143, 3) := by decide +kernel
theorem dX11_fault_8 : decode cX11_fault 8 = .ok (.goto 16, 3) := by decide +kernel
theorem dX11_fault_11 : decode cX11_fault 11 = .ok (.iload_n 1, 1) := by decide +kernel
theorem dX11_fault_12 : decode cX11_fault 12 = .ok (.iconst 1, 1) := by decide +kernel
theorem dX11_fault_13 : decode cX11_fault 13 = .ok (.if_icmp .ne 10, 3) := by decide +kernel
theorem dX11_fault_16 : decode cX11_fault 16 = .ok (.aload_n 0, 1) := by decide +kernel
theorem dX11_fault_17 : decode cX11_fault 17 = .ok (.getfield 27, 3) := by decide +kernel
theorem dX11_fault_20 : decode cX11_fault 20 = .ok (.goto 4, 3) := by decide +kernel
theorem dX11_fault_23 : decode cX11_fault 23 = .ok (.iconst (-1), 1) := by decide +kernel
theorem dX11_fault_24 : decode cX11_fault 24 = .ok (.ireturn, 1) := by decide +kernel
set_option maxHeartbeats 4000000 in
set_option maxRecDepth 100000 in
theorem ctX11_readFirst (l : Launch) (D : va_G) (k : Nat → ClassId) (z : Nat → Nat) (n : Nat → Nat) (mthrown : Int32) (mtaped : Nat) (msize : Nat) (mat : Nat) (mfrom : Nat) (mtoken : Int32) (mvalue : Int32) (mfaultKind : Int32) (mfaultPlace : Int32) (mmoreMany : Nat) (mlawNow : Int32) (mwetSet : Int32) (moverAll : Int32) (mones : Int32) (mtwos : Int32) (mgone : Int32) (mroundNow : Int32) (msampleFor : Int64) (msampleAll : Int64) (maskWorst : Int32) (moftenAll : Int64) (moftenView : Int64) (moftenOnes : Int64) (ftape : Nat → Int32) (ffresh : Nat → Int32) (hmtaped : mtaped ≤ 600) (hmsize : msize ≤ 600) (hmat : mat ≤ 600) (hmfrom : mfrom ≤ 600) (hmmoreMany : mmoreMany ≤ 14) (hkfresh : okW ffresh) (hfa : mfrom ≤ mat) : MU l yX11_readFirst cX11_readFirst 1 none 8 D k z [.ref (n 0)] [((n 0), .inr (11, [.int mthrown, .ref (n 1), .ref (n 2), .ref (n 3), .ref (n 4), .int (nI mtaped), .ref (n 5), .int (nI msize), .int (nI mat), .int (nI mfrom), .int mtoken, .int mvalue, .int mfaultKind, .int mfaultPlace, .ref (n 6), .ref (n 7), .ref (n 8), .ref (n 9), .ref (n 10), .ref (n 11), .ref (n 12), .int (nI mmoreMany), .int mlawNow, .int mwetSet, .int moverAll, .ref (n 13), .ref (n 14), .ref (n 15), .int mones, .int mtwos, .int mgone, .ref (n 16), .ref (n 17), .int mroundNow, .ref (n 18), .long msampleFor, .long msampleAll, .ref (n 19), .int maskWorst, .long moftenAll, .long moftenView, .long moftenOnes, .ref (n 20), .ref (n 21), .ref (n 22), .ref (n 23)])), ((n 4), .inl (k 1, 600, .inl ftape)), ((n 6), .inl (k 0, 99, .inl ffresh))] 0 0 (Uv D (fun u : (Nat → Int32) × (Nat → Nat) × (Nat → Nat → Int32) × (Nat → Nat → Int64) × (Nat → Int64) => (u.2.1 0 ≤ 600) ∧ (u.2.1 1 ≤ 600) ∧ (okW (u.2.2.1 0)) ∧ (mfrom ≤ (u.2.1 1) ∧ (u.2.1 1) ≤ (u.2.1 0)) ∧ ((u.1 2) = 0 → mfaultKind = 0 ∧ mfrom < (u.2.1 1))) (fun u : (Nat → Int32) × (Nat → Nat) × (Nat → Nat → Int32) × (Nat → Nat → Int64) × (Nat → Int64) => [((n 0), .inr (11, [.int mthrown, .ref (n 1), .ref (n 2), .ref (n 3), .ref (n 4), .int (nI mtaped), .ref (n 5), .int (nI msize), .int (nI (u.2.1 0)), .int (nI (u.2.1 1)), .int (u.1 0), .int (u.1 1), .int (u.1 2), .int (u.1 3), .ref (n 6), .ref (n 7), .ref (n 8), .ref (n 9), .ref (n 10), .ref (n 11), .ref (n 12), .int (nI mmoreMany), .int mlawNow, .int mwetSet, .int moverAll, .ref (n 13), .ref (n 14), .ref (n 15), .int mones, .int mtwos, .int mgone, .ref (n 16), .ref (n 17), .int mroundNow, .ref (n 18), .long msampleFor, .long msampleAll, .ref (n 19), .int maskWorst, .long moftenAll, .long moftenView, .long moftenOnes, .ref (n 20), .ref (n 21), .ref (n 22), .ref (n 23)])), ((n 4), .inl (k 1, 600, .inl ftape)), ((n 6), .inl (k 0, 99, .inl (u.2.2.1 0)))])) := by
  refine MU.of (by decide) (Nat.le_of_ble_eq_true rfl) ?_
  intro p e s m below meth c ls A args Q S hr hlk hnm hQ hK hP hD hZ hA hS hl
  have hx := S.1
  have hb := S.2.1
  have hl : lv_has ls 1 [(0, .ref (n 0))] := hl
  have hbffresh := okW_bd hkfresh
  refine lv_aload_n hx hb dX11_readFirst_0 rfl (lv_at hl 0 rfl) ?_
  refine x_ldcS S hZ lsX11_179 dX11_readFirst_1 ?_
  refine x_muVv (wr := [((n 6), .inl (k 0, 99, .inl ffresh))]) (As := [.ref (z 0)]) S hK hP hD hZ hS hA hl mwX11_expects lkX11_172 (ctX11_expects l D k z n mthrown mtaped msize mat mfrom mtoken mvalue mfaultKind mfaultPlace mmoreMany mlawNow mwetSet moverAll mones mtwos mgone mroundNow msampleFor msampleAll maskWorst moftenAll moftenView moftenOnes ftape 0 (by omega) (by omega) (by omega) (by omega) (by omega) (by omega) (by omega)) [0, 1] [2] rfl rfl (by decide) (by decide) (by decide) rfl rfl rfl rfl rfl ⟨Nat.le_of_ble_eq_true rfl, Nat.le_of_ble_eq_true rfl, Nat.le_of_ble_eq_true rfl⟩ dX11_readFirst_3 ⟨Nat.le_of_ble_eq_true rfl, Nat.le_of_ble_eq_true rfl⟩ (fun u_2 H locs hr_1 hP hD hS => ?_)
  have hP : va_P D vwCl [((n 0), .inr (11, [.int mthrown, .ref (n 1), .ref (n 2), .ref (n 3), .ref (n 4), .int (nI mtaped), .ref (n 5), .int (nI msize), .int (nI (u_2.2.1 0)), .int (nI (u_2.2.1 1)), .int (u_2.1 0), .int (u_2.1 1), .int (u_2.1 2), .int (u_2.1 3), .ref (n 6), .ref (n 7), .ref (n 8), .ref (n 9), .ref (n 10), .ref (n 11), .ref (n 12), .int (nI mmoreMany), .int mlawNow, .int mwetSet, .int moverAll, .ref (n 13), .ref (n 14), .ref (n 15), .int mones, .int mtwos, .int mgone, .ref (n 16), .ref (n 17), .int mroundNow, .ref (n 18), .long msampleFor, .long msampleAll, .ref (n 19), .int maskWorst, .long moftenAll, .long moftenView, .long moftenOnes, .ref (n 20), .ref (n 21), .ref (n 22), .ref (n 23)])), ((n 4), .inl (k 1, 600, .inl ftape)), ((n 6), .inl (k 0, 99, .inl ffresh))] H := hP.sub [1, 2, 0] rfl
  have hD : va_D A [((n 0), .inr (11, [.int mthrown, .ref (n 1), .ref (n 2), .ref (n 3), .ref (n 4), .int (nI mtaped), .ref (n 5), .int (nI msize), .int (nI (u_2.2.1 0)), .int (nI (u_2.2.1 1)), .int (u_2.1 0), .int (u_2.1 1), .int (u_2.1 2), .int (u_2.1 3), .ref (n 6), .ref (n 7), .ref (n 8), .ref (n 9), .ref (n 10), .ref (n 11), .ref (n 12), .int (nI mmoreMany), .int mlawNow, .int mwetSet, .int moverAll, .ref (n 13), .ref (n 14), .ref (n 15), .int mones, .int mtwos, .int mgone, .ref (n 16), .ref (n 17), .int mroundNow, .ref (n 18), .long msampleFor, .long msampleAll, .ref (n 19), .int maskWorst, .long moftenAll, .long moftenView, .long moftenOnes, .ref (n 20), .ref (n 21), .ref (n 22), .ref (n 23)])), ((n 4), .inl (k 1, 600, .inl ftape)), ((n 6), .inl (k 0, 99, .inl ffresh))] := hD.sub [1, 2, 0] (by decide) rfl
  obtain ⟨hg_3, hg_4, hg_5, hg_6⟩ := hr_1
  refine lv_aload_n hx hb dX11_readFirst_6 rfl (lv_at hl 0 rfl) ?_
  refine x_get S hK hP 0 rfl cfX11 14 lkX11_31 (by decide) rfl dX11_readFirst_7 ?_
  refine lv_iconst (v := 0) hx hb dX11_readFirst_10 (by decide) ?_
  refine lv_aload_n hx hb dX11_readFirst_11 rfl (lv_at hl 0 rfl) ?_
  refine x_ldcS S hZ lsX11_181 dX11_readFirst_12 ?_
  refine lv_iconst (v := 1) hx hb dX11_readFirst_14 (by decide) ?_
  refine lv_bipush (v := 16) hx hb dX11_readFirst_15 (by decide) ?_
  refine x_muVi (wr := [((n 6), .inl (k 0, 99, .inl ffresh))]) (As := [.ref (z 1), .int 1, .int 16]) S hK hP hD hZ hS hA hl mwX11_told lkX11_182 (ctX11_told_n l D k z n mthrown mtaped msize (u_2.2.1 0) (u_2.2.1 1) (u_2.1 0) (u_2.1 1) (u_2.1 2) (u_2.1 3) mmoreMany mlawNow mwetSet moverAll mones mtwos mgone mroundNow msampleFor msampleAll maskWorst moftenAll moftenView moftenOnes ftape 1 1 16 (by omega) (by omega) (by omega) (by omega) (by omega) (by omega) (by omega) (by omega) (by omega)) [0, 1] [2] rfl rfl (by decide) (by decide) (by decide) rfl rfl rfl rfl rfl ⟨Nat.le_of_ble_eq_true rfl, Nat.le_of_ble_eq_true rfl, Nat.le_of_ble_eq_true rfl⟩ dX11_readFirst_17 ⟨Nat.le_of_ble_eq_true rfl, Nat.le_of_ble_eq_true rfl⟩ (fun r_7 u_8 H locs hr_7 hP hD hS => ?_)
  have hP : va_P D vwCl [((n 0), .inr (11, [.int mthrown, .ref (n 1), .ref (n 2), .ref (n 3), .ref (n 4), .int (nI mtaped), .ref (n 5), .int (nI msize), .int (nI (u_8.2.1 0)), .int (nI (u_8.2.1 1)), .int (u_8.1 0), .int (u_8.1 1), .int (u_8.1 2), .int (u_8.1 3), .ref (n 6), .ref (n 7), .ref (n 8), .ref (n 9), .ref (n 10), .ref (n 11), .ref (n 12), .int (nI mmoreMany), .int mlawNow, .int mwetSet, .int moverAll, .ref (n 13), .ref (n 14), .ref (n 15), .int mones, .int mtwos, .int mgone, .ref (n 16), .ref (n 17), .int mroundNow, .ref (n 18), .long msampleFor, .long msampleAll, .ref (n 19), .int maskWorst, .long moftenAll, .long moftenView, .long moftenOnes, .ref (n 20), .ref (n 21), .ref (n 22), .ref (n 23)])), ((n 4), .inl (k 1, 600, .inl ftape)), ((n 6), .inl (k 0, 99, .inl ffresh))] H := hP.sub [1, 2, 0] rfl
  have hD : va_D A [((n 0), .inr (11, [.int mthrown, .ref (n 1), .ref (n 2), .ref (n 3), .ref (n 4), .int (nI mtaped), .ref (n 5), .int (nI msize), .int (nI (u_8.2.1 0)), .int (nI (u_8.2.1 1)), .int (u_8.1 0), .int (u_8.1 1), .int (u_8.1 2), .int (u_8.1 3), .ref (n 6), .ref (n 7), .ref (n 8), .ref (n 9), .ref (n 10), .ref (n 11), .ref (n 12), .int (nI mmoreMany), .int mlawNow, .int mwetSet, .int moverAll, .ref (n 13), .ref (n 14), .ref (n 15), .int mones, .int mtwos, .int mgone, .ref (n 16), .ref (n 17), .int mroundNow, .ref (n 18), .long msampleFor, .long msampleAll, .ref (n 19), .int maskWorst, .long moftenAll, .long moftenView, .long moftenOnes, .ref (n 20), .ref (n 21), .ref (n 22), .ref (n 23)])), ((n 4), .inl (k 1, 600, .inl ftape)), ((n 6), .inl (k 0, 99, .inl ffresh))] := hD.sub [1, 2, 0] (by decide) rfl
  obtain ⟨⟨n_9, rfl, hn_9⟩, hg_10, hg_11, hg_12, hg_13⟩ := hr_7
  refine x_iast (ws' := fun f_14 => [((n 0), .inr (11, [.int mthrown, .ref (n 1), .ref (n 2), .ref (n 3), .ref (n 4), .int (nI mtaped), .ref (n 5), .int (nI msize), .int (nI (u_8.2.1 0)), .int (nI (u_8.2.1 1)), .int (u_8.1 0), .int (u_8.1 1), .int (u_8.1 2), .int (u_8.1 3), .ref (n 6), .ref (n 7), .ref (n 8), .ref (n 9), .ref (n 10), .ref (n 11), .ref (n 12), .int (nI mmoreMany), .int mlawNow, .int mwetSet, .int moverAll, .ref (n 13), .ref (n 14), .ref (n 15), .int mones, .int mtwos, .int mgone, .ref (n 16), .ref (n 17), .int mroundNow, .ref (n 18), .long msampleFor, .long msampleAll, .ref (n 19), .int maskWorst, .long moftenAll, .long moftenView, .long moftenOnes, .ref (n 20), .ref (n 21), .ref (n 22), .ref (n 23)])), ((n 4), .inl (k 1, 600, .inl ftape)), ((n 6), .inl (k 0, 99, .inl f_14))]) S hK hP hD hS 2 rfl (vp_lit (by decide)) (fun _ => rfl) dX11_readFirst_20 (fun f_14 H locs ef_14 hP hD hS => ?_)
  obtain ⟨hif_14, hbf_14⟩ := okW_s0 ef_14 hkfresh (by decide) (q := n_9) rfl (by omega)
  refine lv_aload_n hx hb dX11_readFirst_21 rfl (lv_at hl 0 rfl) ?_
  refine x_get S hK hP 0 rfl cfX11 14 lkX11_31 (by decide) rfl dX11_readFirst_22 ?_
  refine lv_iconst (v := 1) hx hb dX11_readFirst_25 (by decide) ?_
  refine lv_aload_n hx hb dX11_readFirst_26 rfl (lv_at hl 0 rfl) ?_
  refine x_ldcS S hZ lsX11_186 dX11_readFirst_27 ?_
  refine lv_iconst (v := 0) hx hb dX11_readFirst_29 (by decide) ?_
  refine lv_iconst (v := 3) hx hb dX11_readFirst_30 (by decide) ?_
  refine x_muVi (wr := [((n 6), .inl (k 0, 99, .inl f_14))]) (As := [.ref (z 2), .int 0, .int 3]) S hK hP hD hZ hS hA hl mwX11_told lkX11_182 (ctX11_told_n l D k z n mthrown mtaped msize (u_8.2.1 0) (u_8.2.1 1) (u_8.1 0) (u_8.1 1) (u_8.1 2) (u_8.1 3) mmoreMany mlawNow mwetSet moverAll mones mtwos mgone mroundNow msampleFor msampleAll maskWorst moftenAll moftenView moftenOnes ftape 2 0 3 (by omega) (by omega) (by omega) (by omega) (by omega) (by omega) (by omega) (by omega) (by omega)) [0, 1] [2] rfl rfl (by decide) (by decide) (by decide) rfl rfl rfl rfl rfl ⟨Nat.le_of_ble_eq_true rfl, Nat.le_of_ble_eq_true rfl, Nat.le_of_ble_eq_true rfl⟩ dX11_readFirst_31 ⟨Nat.le_of_ble_eq_true rfl, Nat.le_of_ble_eq_true rfl⟩ (fun r_15 u_16 H locs hr_15 hP hD hS => ?_)
  have hP : va_P D vwCl [((n 0), .inr (11, [.int mthrown, .ref (n 1), .ref (n 2), .ref (n 3), .ref (n 4), .int (nI mtaped), .ref (n 5), .int (nI msize), .int (nI (u_16.2.1 0)), .int (nI (u_16.2.1 1)), .int (u_16.1 0), .int (u_16.1 1), .int (u_16.1 2), .int (u_16.1 3), .ref (n 6), .ref (n 7), .ref (n 8), .ref (n 9), .ref (n 10), .ref (n 11), .ref (n 12), .int (nI mmoreMany), .int mlawNow, .int mwetSet, .int moverAll, .ref (n 13), .ref (n 14), .ref (n 15), .int mones, .int mtwos, .int mgone, .ref (n 16), .ref (n 17), .int mroundNow, .ref (n 18), .long msampleFor, .long msampleAll, .ref (n 19), .int maskWorst, .long moftenAll, .long moftenView, .long moftenOnes, .ref (n 20), .ref (n 21), .ref (n 22), .ref (n 23)])), ((n 4), .inl (k 1, 600, .inl ftape)), ((n 6), .inl (k 0, 99, .inl f_14))] H := hP.sub [1, 2, 0] rfl
  have hD : va_D A [((n 0), .inr (11, [.int mthrown, .ref (n 1), .ref (n 2), .ref (n 3), .ref (n 4), .int (nI mtaped), .ref (n 5), .int (nI msize), .int (nI (u_16.2.1 0)), .int (nI (u_16.2.1 1)), .int (u_16.1 0), .int (u_16.1 1), .int (u_16.1 2), .int (u_16.1 3), .ref (n 6), .ref (n 7), .ref (n 8), .ref (n 9), .ref (n 10), .ref (n 11), .ref (n 12), .int (nI mmoreMany), .int mlawNow, .int mwetSet, .int moverAll, .ref (n 13), .ref (n 14), .ref (n 15), .int mones, .int mtwos, .int mgone, .ref (n 16), .ref (n 17), .int mroundNow, .ref (n 18), .long msampleFor, .long msampleAll, .ref (n 19), .int maskWorst, .long moftenAll, .long moftenView, .long moftenOnes, .ref (n 20), .ref (n 21), .ref (n 22), .ref (n 23)])), ((n 4), .inl (k 1, 600, .inl ftape)), ((n 6), .inl (k 0, 99, .inl f_14))] := hD.sub [1, 2, 0] (by decide) rfl
  obtain ⟨⟨n_17, rfl, hn_17⟩, hg_18, hg_19, hg_20, hg_21⟩ := hr_15
  refine x_iast (ws' := fun f_22 => [((n 0), .inr (11, [.int mthrown, .ref (n 1), .ref (n 2), .ref (n 3), .ref (n 4), .int (nI mtaped), .ref (n 5), .int (nI msize), .int (nI (u_16.2.1 0)), .int (nI (u_16.2.1 1)), .int (u_16.1 0), .int (u_16.1 1), .int (u_16.1 2), .int (u_16.1 3), .ref (n 6), .ref (n 7), .ref (n 8), .ref (n 9), .ref (n 10), .ref (n 11), .ref (n 12), .int (nI mmoreMany), .int mlawNow, .int mwetSet, .int moverAll, .ref (n 13), .ref (n 14), .ref (n 15), .int mones, .int mtwos, .int mgone, .ref (n 16), .ref (n 17), .int mroundNow, .ref (n 18), .long msampleFor, .long msampleAll, .ref (n 19), .int maskWorst, .long moftenAll, .long moftenView, .long moftenOnes, .ref (n 20), .ref (n 21), .ref (n 22), .ref (n 23)])), ((n 4), .inl (k 1, 600, .inl ftape)), ((n 6), .inl (k 0, 99, .inl f_22))]) S hK hP hD hS 2 rfl (vp_lit (by decide)) (fun _ => rfl) dX11_readFirst_34 (fun f_22 H locs ef_22 hP hD hS => ?_)
  obtain ⟨hif_22, hbf_22⟩ := okW_hi ef_22 hif_14 (a := 1) (by decide) (by omega) (by omega)
  refine lv_aload_n hx hb dX11_readFirst_35 rfl (lv_at hl 0 rfl) ?_
  refine x_get S hK hP 0 rfl cfX11 14 lkX11_31 (by decide) rfl dX11_readFirst_36 ?_
  refine lv_iconst (v := 2) hx hb dX11_readFirst_39 (by decide) ?_
  refine lv_aload_n hx hb dX11_readFirst_40 rfl (lv_at hl 0 rfl) ?_
  refine x_ldcS S hZ lsX11_188 dX11_readFirst_41 ?_
  refine lv_iconst (v := 0) hx hb dX11_readFirst_43 (by decide) ?_
  refine lv_bipush (v := 10) hx hb dX11_readFirst_44 (by decide) ?_
  refine x_muVi (wr := [((n 6), .inl (k 0, 99, .inl f_22))]) (As := [.ref (z 3), .int 0, .int 10]) S hK hP hD hZ hS hA hl mwX11_told lkX11_182 (ctX11_told_n l D k z n mthrown mtaped msize (u_16.2.1 0) (u_16.2.1 1) (u_16.1 0) (u_16.1 1) (u_16.1 2) (u_16.1 3) mmoreMany mlawNow mwetSet moverAll mones mtwos mgone mroundNow msampleFor msampleAll maskWorst moftenAll moftenView moftenOnes ftape 3 0 10 (by omega) (by omega) (by omega) (by omega) (by omega) (by omega) (by omega) (by omega) (by omega)) [0, 1] [2] rfl rfl (by decide) (by decide) (by decide) rfl rfl rfl rfl rfl ⟨Nat.le_of_ble_eq_true rfl, Nat.le_of_ble_eq_true rfl, Nat.le_of_ble_eq_true rfl⟩ dX11_readFirst_46 ⟨Nat.le_of_ble_eq_true rfl, Nat.le_of_ble_eq_true rfl⟩ (fun r_23 u_24 H locs hr_23 hP hD hS => ?_)
  have hP : va_P D vwCl [((n 0), .inr (11, [.int mthrown, .ref (n 1), .ref (n 2), .ref (n 3), .ref (n 4), .int (nI mtaped), .ref (n 5), .int (nI msize), .int (nI (u_24.2.1 0)), .int (nI (u_24.2.1 1)), .int (u_24.1 0), .int (u_24.1 1), .int (u_24.1 2), .int (u_24.1 3), .ref (n 6), .ref (n 7), .ref (n 8), .ref (n 9), .ref (n 10), .ref (n 11), .ref (n 12), .int (nI mmoreMany), .int mlawNow, .int mwetSet, .int moverAll, .ref (n 13), .ref (n 14), .ref (n 15), .int mones, .int mtwos, .int mgone, .ref (n 16), .ref (n 17), .int mroundNow, .ref (n 18), .long msampleFor, .long msampleAll, .ref (n 19), .int maskWorst, .long moftenAll, .long moftenView, .long moftenOnes, .ref (n 20), .ref (n 21), .ref (n 22), .ref (n 23)])), ((n 4), .inl (k 1, 600, .inl ftape)), ((n 6), .inl (k 0, 99, .inl f_22))] H := hP.sub [1, 2, 0] rfl
  have hD : va_D A [((n 0), .inr (11, [.int mthrown, .ref (n 1), .ref (n 2), .ref (n 3), .ref (n 4), .int (nI mtaped), .ref (n 5), .int (nI msize), .int (nI (u_24.2.1 0)), .int (nI (u_24.2.1 1)), .int (u_24.1 0), .int (u_24.1 1), .int (u_24.1 2), .int (u_24.1 3), .ref (n 6), .ref (n 7), .ref (n 8), .ref (n 9), .ref (n 10), .ref (n 11), .ref (n 12), .int (nI mmoreMany), .int mlawNow, .int mwetSet, .int moverAll, .ref (n 13), .ref (n 14), .ref (n 15), .int mones, .int mtwos, .int mgone, .ref (n 16), .ref (n 17), .int mroundNow, .ref (n 18), .long msampleFor, .long msampleAll, .ref (n 19), .int maskWorst, .long moftenAll, .long moftenView, .long moftenOnes, .ref (n 20), .ref (n 21), .ref (n 22), .ref (n 23)])), ((n 4), .inl (k 1, 600, .inl ftape)), ((n 6), .inl (k 0, 99, .inl f_22))] := hD.sub [1, 2, 0] (by decide) rfl
  obtain ⟨⟨n_25, rfl, hn_25⟩, hg_26, hg_27, hg_28, hg_29⟩ := hr_23
  refine x_iast (ws' := fun f_30 => [((n 0), .inr (11, [.int mthrown, .ref (n 1), .ref (n 2), .ref (n 3), .ref (n 4), .int (nI mtaped), .ref (n 5), .int (nI msize), .int (nI (u_24.2.1 0)), .int (nI (u_24.2.1 1)), .int (u_24.1 0), .int (u_24.1 1), .int (u_24.1 2), .int (u_24.1 3), .ref (n 6), .ref (n 7), .ref (n 8), .ref (n 9), .ref (n 10), .ref (n 11), .ref (n 12), .int (nI mmoreMany), .int mlawNow, .int mwetSet, .int moverAll, .ref (n 13), .ref (n 14), .ref (n 15), .int mones, .int mtwos, .int mgone, .ref (n 16), .ref (n 17), .int mroundNow, .ref (n 18), .long msampleFor, .long msampleAll, .ref (n 19), .int maskWorst, .long moftenAll, .long moftenView, .long moftenOnes, .ref (n 20), .ref (n 21), .ref (n 22), .ref (n 23)])), ((n 4), .inl (k 1, 600, .inl ftape)), ((n 6), .inl (k 0, 99, .inl f_30))]) S hK hP hD hS 2 rfl (vp_lit (by decide)) (fun _ => rfl) dX11_readFirst_49 (fun f_30 H locs ef_30 hP hD hS => ?_)
  obtain ⟨hif_30, hbf_30⟩ := okW_s2 ef_30 hif_22 (by decide) (q := n_25) rfl (by omega)
  exact x_retv S hr hlk hQ hS ((fun i => ([(u_24.1 0), (u_24.1 1), (u_24.1 2), (u_24.1 3)] : List (Int32)).getD i 0), (fun i => ([u_24.2.1 0, u_24.2.1 1] : List (Nat)).getD i 0), (fun i => ([f_30] : List (Nat → Int32)).getD i (fun _ => 0)), (fun i => ([] : List (Nat → Int64)).getD i (fun _ => 0)), (fun i => ([] : List (Int64)).getD i 0)) ⟨(show u_24.2.1 0 ≤ 600 by omega), (show u_24.2.1 1 ≤ 600 by omega), hif_30, (show mfrom ≤ u_24.2.1 1 ∧ u_24.2.1 1 ≤ u_24.2.1 0 by omega), (fun hz => (show mfaultKind = 0 ∧ mfrom < u_24.2.1 1 by have k_31 := hg_29 hz; have k_32 := hg_21 k_31.1; have k_33 := hg_13 k_32.1; have k_34 := hg_6 k_33.1; exact ⟨k_34.1, by omega⟩))⟩ (x_B hP hD) dX11_readFirst_50

set_option maxHeartbeats 4000000 in
set_option maxRecDepth 100000 in
theorem ctX11_readHead (l : Launch) (D : va_G) (k : Nat → ClassId) (z : Nat → Nat) (n : Nat → Nat) (mthrown : Int32) (mtaped : Nat) (msize : Nat) (mat : Nat) (mfrom : Nat) (mtoken : Int32) (mvalue : Int32) (mfaultKind : Int32) (mfaultPlace : Int32) (mmoreMany : Nat) (mlawNow : Int32) (mwetSet : Int32) (moverAll : Int32) (mones : Int32) (mtwos : Int32) (mgone : Int32) (mroundNow : Int32) (msampleFor : Int64) (msampleAll : Int64) (maskWorst : Int32) (moftenAll : Int64) (moftenView : Int64) (moftenOnes : Int64) (ftape : Nat → Int32) (ffresh : Nat → Int32) (hmtaped : mtaped ≤ 600) (hmsize : msize ≤ 600) (hmat : mat ≤ 600) (hmfrom : mfrom ≤ 600) (hmmoreMany : mmoreMany ≤ 14) (hkfresh : okW ffresh) (hfa : mfrom ≤ mat) (h34 : wn ffresh 3 < 4) : MU l yX11_readHead cX11_readHead 5 none 8 D k z [.ref (n 0)] [((n 0), .inr (11, [.int mthrown, .ref (n 1), .ref (n 2), .ref (n 3), .ref (n 4), .int (nI mtaped), .ref (n 5), .int (nI msize), .int (nI mat), .int (nI mfrom), .int mtoken, .int mvalue, .int mfaultKind, .int mfaultPlace, .ref (n 6), .ref (n 7), .ref (n 8), .ref (n 9), .ref (n 10), .ref (n 11), .ref (n 12), .int (nI mmoreMany), .int mlawNow, .int mwetSet, .int moverAll, .ref (n 13), .ref (n 14), .ref (n 15), .int mones, .int mtwos, .int mgone, .ref (n 16), .ref (n 17), .int mroundNow, .ref (n 18), .long msampleFor, .long msampleAll, .ref (n 19), .int maskWorst, .long moftenAll, .long moftenView, .long moftenOnes, .ref (n 20), .ref (n 21), .ref (n 22), .ref (n 23)])), ((n 4), .inl (k 1, 600, .inl ftape)), ((n 6), .inl (k 0, 99, .inl ffresh))] 0 0 (Uv D (fun u : (Nat → Int32) × (Nat → Nat) × (Nat → Nat → Int32) × (Nat → Nat → Int64) × (Nat → Int64) => (u.2.1 0 ≤ 600) ∧ (u.2.1 1 ≤ 600) ∧ (okW (u.2.2.1 0)) ∧ (mfrom ≤ (u.2.1 1) ∧ (u.2.1 1) ≤ (u.2.1 0)) ∧ ((u.1 2) = 0 → mfaultKind = 0 ∧ mfrom < (u.2.1 1)) ∧ (wn (u.2.2.1 0) 3 = wn ffresh 3)) (fun u : (Nat → Int32) × (Nat → Nat) × (Nat → Nat → Int32) × (Nat → Nat → Int64) × (Nat → Int64) => [((n 0), .inr (11, [.int mthrown, .ref (n 1), .ref (n 2), .ref (n 3), .ref (n 4), .int (nI mtaped), .ref (n 5), .int (nI msize), .int (nI (u.2.1 0)), .int (nI (u.2.1 1)), .int (u.1 0), .int (u.1 1), .int (u.1 2), .int (u.1 3), .ref (n 6), .ref (n 7), .ref (n 8), .ref (n 9), .ref (n 10), .ref (n 11), .ref (n 12), .int (nI mmoreMany), .int mlawNow, .int mwetSet, .int moverAll, .ref (n 13), .ref (n 14), .ref (n 15), .int mones, .int mtwos, .int mgone, .ref (n 16), .ref (n 17), .int mroundNow, .ref (n 18), .long msampleFor, .long msampleAll, .ref (n 19), .int maskWorst, .long moftenAll, .long moftenView, .long moftenOnes, .ref (n 20), .ref (n 21), .ref (n 22), .ref (n 23)])), ((n 4), .inl (k 1, 600, .inl ftape)), ((n 6), .inl (k 0, 99, .inl (u.2.2.1 0)))])) := by
  refine MU.of (by decide) (Nat.le_of_ble_eq_true rfl) ?_
  intro p e s m below meth c ls A args Q S hr hlk hnm hQ hK hP hD hZ hA hS hl
  have hx := S.1
  have hb := S.2.1
  have hl : lv_has ls 5 [(0, .ref (n 0))] := hl
  have hbffresh := okW_bd hkfresh
  refine lv_bipush (v := 9) hx hb dX11_readHead_0 (by decide) ?_
  refine lv_aload_n hx hb dX11_readHead_2 rfl (lv_at hl 0 rfl) ?_
  refine x_get S hK hP 0 rfl cfX11 14 lkX11_31 (by decide) rfl dX11_readHead_3 ?_
  refine lv_iconst (v := 3) hx hb dX11_readHead_6 (by decide) ?_
  refine x_iald S hK hP 2 rfl (vp_lit (by decide)) dX11_readHead_7 ?_
  refine x_is (nI (wn ffresh 3)) ((cl_at (f := ffresh) (a := 3) (by decide) (by omega)).trans (okW_at hkfresh (i := 3) (by omega))) ?_
  refine lv_iadd hx hb dX11_readHead_8 ?_
  refine x_is (nI (9 + wn ffresh 3)) (ni_add (by decide) rfl) ?_
  refine lv_istore_n (lv' := [(1, .int (nI (9 + wn ffresh 3))), (0, .ref (n 0))]) hx hb dX11_readHead_9 rfl hl (by decide) rfl (fun ls hl => ?_)
  refine lv_aload_n hx hb dX11_readHead_10 rfl (lv_at hl 1 rfl) ?_
  refine x_ldcS S hZ lsX11_190 dX11_readHead_11 ?_
  refine x_roVi (As := [.ref (z 5)]) S hK hP hD hZ (fun _ h => h) hA hS hA hl mwX11_is lkX11_158 (ctX11_is l D k z n mthrown mtaped msize mat mfrom mtoken mvalue mfaultKind mfaultPlace mmoreMany mlawNow mwetSet moverAll mones mtwos mgone mroundNow msampleFor msampleAll maskWorst moftenAll moftenView moftenOnes ftape 5 (by omega) (by omega) (by omega) (by omega) (by omega) (by omega)) [0, 1] rfl (by decide) rfl rfl rfl rfl rfl ⟨Nat.le_of_ble_eq_true rfl, Nat.le_of_ble_eq_true rfl, Nat.le_of_ble_eq_true rfl⟩ dX11_readHead_13 ⟨Nat.le_of_ble_eq_true rfl, Nat.le_of_ble_eq_true rfl⟩ (fun r_1 H locs hr_1 hP hS => ?_)
  obtain rfl := hr_1
  refine lv_if_eq (tgt := 46) hx hb dX11_readHead_16 (by decide) (fun c_3 => ?_) (fun c_3 => ?_)
  · skip
    have c_3 : ¬ (isW mfaultKind mtoken mat mfrom ftape 5) := isB_0.mp c_3
    refine lv_bipush (v := 13) hx hb dX11_readHead_46 (by decide) ?_
    refine lv_iconst (v := 2) hx hb dX11_readHead_48 (by decide) ?_
    refine lv_aload_n hx hb dX11_readHead_49 rfl (lv_at hl 1 rfl) ?_
    refine x_get S hK hP 0 rfl cfX11 14 lkX11_31 (by decide) rfl dX11_readHead_50 ?_
    refine lv_iconst (v := 4) hx hb dX11_readHead_53 (by decide) ?_
    refine x_iald S hK hP 2 rfl (vp_lit (by decide)) dX11_readHead_54 ?_
    refine x_is (nI (wn ffresh 4)) ((cl_at (f := ffresh) (a := 4) (by decide) (by omega)).trans (okW_at hkfresh (i := 4) (by omega))) ?_
    refine lv_imul hx hb dX11_readHead_55 ?_
    refine x_is (nI (2 * (wn ffresh 4))) (ni_mul (by decide) rfl) ?_
    refine lv_iadd hx hb dX11_readHead_56 ?_
    refine x_is (nI (13 + 2 * (wn ffresh 4))) (ni_add (by decide) rfl) ?_
    refine lv_istore_n (lv' := [(2, .int (nI (13 + 2 * (wn ffresh 4)))), (1, .int (nI (9 + wn ffresh 3))), (0, .ref (n 0))]) hx hb dX11_readHead_57 rfl hl (by decide) rfl (fun ls hl => ?_)
    refine lv_aload_n hx hb dX11_readHead_58 rfl (lv_at hl 2 rfl) ?_
    refine x_ldcS S hZ lsX11_190 dX11_readHead_59 ?_
    refine lv_iconst (v := 1) hx hb dX11_readHead_61 (by decide) ?_
    refine lv_iconst (v := 4) hx hb dX11_readHead_62 (by decide) ?_
    refine x_muVi (wr := [((n 6), .inl (k 0, 99, .inl ffresh))]) (As := [.ref (z 5), .int 1, .int 4]) S hK hP hD hZ hS hA hl mwX11_told lkX11_182 (ctX11_told_n l D k z n mthrown mtaped msize mat mfrom mtoken mvalue mfaultKind mfaultPlace mmoreMany mlawNow mwetSet moverAll mones mtwos mgone mroundNow msampleFor msampleAll maskWorst moftenAll moftenView moftenOnes ftape 5 1 4 (by omega) (by omega) (by omega) (by omega) (by omega) (by omega) (by omega) (by omega) (by omega)) [0, 1] [2] rfl rfl (by decide) (by decide) (by decide) rfl rfl rfl rfl rfl ⟨Nat.le_of_ble_eq_true rfl, Nat.le_of_ble_eq_true rfl, Nat.le_of_ble_eq_true rfl⟩ dX11_readHead_63 ⟨Nat.le_of_ble_eq_true rfl, Nat.le_of_ble_eq_true rfl⟩ (fun r_4 u_5 H locs hr_4 hP hD hS => ?_)
    have hP : va_P D vwCl [((n 0), .inr (11, [.int mthrown, .ref (n 1), .ref (n 2), .ref (n 3), .ref (n 4), .int (nI mtaped), .ref (n 5), .int (nI msize), .int (nI (u_5.2.1 0)), .int (nI (u_5.2.1 1)), .int (u_5.1 0), .int (u_5.1 1), .int (u_5.1 2), .int (u_5.1 3), .ref (n 6), .ref (n 7), .ref (n 8), .ref (n 9), .ref (n 10), .ref (n 11), .ref (n 12), .int (nI mmoreMany), .int mlawNow, .int mwetSet, .int moverAll, .ref (n 13), .ref (n 14), .ref (n 15), .int mones, .int mtwos, .int mgone, .ref (n 16), .ref (n 17), .int mroundNow, .ref (n 18), .long msampleFor, .long msampleAll, .ref (n 19), .int maskWorst, .long moftenAll, .long moftenView, .long moftenOnes, .ref (n 20), .ref (n 21), .ref (n 22), .ref (n 23)])), ((n 4), .inl (k 1, 600, .inl ftape)), ((n 6), .inl (k 0, 99, .inl ffresh))] H := hP.sub [1, 2, 0] rfl
    have hD : va_D A [((n 0), .inr (11, [.int mthrown, .ref (n 1), .ref (n 2), .ref (n 3), .ref (n 4), .int (nI mtaped), .ref (n 5), .int (nI msize), .int (nI (u_5.2.1 0)), .int (nI (u_5.2.1 1)), .int (u_5.1 0), .int (u_5.1 1), .int (u_5.1 2), .int (u_5.1 3), .ref (n 6), .ref (n 7), .ref (n 8), .ref (n 9), .ref (n 10), .ref (n 11), .ref (n 12), .int (nI mmoreMany), .int mlawNow, .int mwetSet, .int moverAll, .ref (n 13), .ref (n 14), .ref (n 15), .int mones, .int mtwos, .int mgone, .ref (n 16), .ref (n 17), .int mroundNow, .ref (n 18), .long msampleFor, .long msampleAll, .ref (n 19), .int maskWorst, .long moftenAll, .long moftenView, .long moftenOnes, .ref (n 20), .ref (n 21), .ref (n 22), .ref (n 23)])), ((n 4), .inl (k 1, 600, .inl ftape)), ((n 6), .inl (k 0, 99, .inl ffresh))] := hD.sub [1, 2, 0] (by decide) rfl
    obtain ⟨⟨n_6, rfl, hn_6⟩, hg_7, hg_8, hg_9, hg_10⟩ := hr_4
    refine lv_istore_n (lv' := [(3, .int (nI n_6)), (2, .int (nI (13 + 2 * (wn ffresh 4)))), (1, .int (nI (9 + wn ffresh 3))), (0, .ref (n 0))]) hx hb dX11_readHead_66 rfl hl (by decide) rfl (fun ls hl => ?_)
    refine lv_aload_n hx hb dX11_readHead_67 rfl (lv_at hl 3 rfl) ?_
    refine x_ldcS S hZ lsX11_192 dX11_readHead_68 ?_
    refine x_muVi (wr := [((n 6), .inl (k 0, 99, .inl ffresh))]) (As := [.ref (z 6)]) S hK hP hD hZ hS hA hl mwX11_takes lkX11_165 (ctX11_takes l D k z n mthrown mtaped msize (u_5.2.1 0) (u_5.2.1 1) (u_5.1 0) (u_5.1 1) (u_5.1 2) (u_5.1 3) mmoreMany mlawNow mwetSet moverAll mones mtwos mgone mroundNow msampleFor msampleAll maskWorst moftenAll moftenView moftenOnes ftape 6 (by omega) (by omega) (by omega) (by omega) (by omega) (by omega) (by omega)) [0, 1] [2] rfl rfl (by decide) (by decide) (by decide) rfl rfl rfl rfl rfl ⟨Nat.le_of_ble_eq_true rfl, Nat.le_of_ble_eq_true rfl, Nat.le_of_ble_eq_true rfl⟩ dX11_readHead_70 ⟨Nat.le_of_ble_eq_true rfl, Nat.le_of_ble_eq_true rfl⟩ (fun r_11 u_12 H locs hr_11 hP hD hS => ?_)
    have hP : va_P D vwCl [((n 0), .inr (11, [.int mthrown, .ref (n 1), .ref (n 2), .ref (n 3), .ref (n 4), .int (nI mtaped), .ref (n 5), .int (nI msize), .int (nI (u_12.2.1 0)), .int (nI (u_12.2.1 1)), .int (u_12.1 0), .int (u_12.1 1), .int (u_5.1 2), .int (u_5.1 3), .ref (n 6), .ref (n 7), .ref (n 8), .ref (n 9), .ref (n 10), .ref (n 11), .ref (n 12), .int (nI mmoreMany), .int mlawNow, .int mwetSet, .int moverAll, .ref (n 13), .ref (n 14), .ref (n 15), .int mones, .int mtwos, .int mgone, .ref (n 16), .ref (n 17), .int mroundNow, .ref (n 18), .long msampleFor, .long msampleAll, .ref (n 19), .int maskWorst, .long moftenAll, .long moftenView, .long moftenOnes, .ref (n 20), .ref (n 21), .ref (n 22), .ref (n 23)])), ((n 4), .inl (k 1, 600, .inl ftape)), ((n 6), .inl (k 0, 99, .inl ffresh))] H := hP.sub [1, 2, 0] rfl
    have hD : va_D A [((n 0), .inr (11, [.int mthrown, .ref (n 1), .ref (n 2), .ref (n 3), .ref (n 4), .int (nI mtaped), .ref (n 5), .int (nI msize), .int (nI (u_12.2.1 0)), .int (nI (u_12.2.1 1)), .int (u_12.1 0), .int (u_12.1 1), .int (u_5.1 2), .int (u_5.1 3), .ref (n 6), .ref (n 7), .ref (n 8), .ref (n 9), .ref (n 10), .ref (n 11), .ref (n 12), .int (nI mmoreMany), .int mlawNow, .int mwetSet, .int moverAll, .ref (n 13), .ref (n 14), .ref (n 15), .int mones, .int mtwos, .int mgone, .ref (n 16), .ref (n 17), .int mroundNow, .ref (n 18), .long msampleFor, .long msampleAll, .ref (n 19), .int maskWorst, .long moftenAll, .long moftenView, .long moftenOnes, .ref (n 20), .ref (n 21), .ref (n 22), .ref (n 23)])), ((n 4), .inl (k 1, 600, .inl ftape)), ((n 6), .inl (k 0, 99, .inl ffresh))] := hD.sub [1, 2, 0] (by decide) rfl
    obtain ⟨rfl, hg_13, hg_14, hg_15, hg_16, hg_17⟩ := hr_11
    refine lv_if_eq (tgt := 86) hx hb dX11_readHead_73 (by decide) (fun c_18 => ?_) (fun c_18 => ?_)
    · skip
      have c_18 : ¬ (isW (u_5.1 2) (u_5.1 0) (u_5.2.1 0) (u_5.2.1 1) ftape 6) := isB_0.mp c_18
      refine lv_iconst (v := 0) hx hb dX11_readHead_86 (by decide) ?_
      refine lv_istore (lv' := [(4, .int 0), (3, .int (nI n_6)), (2, .int (nI (13 + 2 * (wn ffresh 4)))), (1, .int (nI (9 + wn ffresh 3))), (0, .ref (n 0))]) hx hb dX11_readHead_87 hl (by decide) rfl (fun ls hl => ?_)
      refine lv_aload_n hx hb dX11_readHead_89 rfl (lv_at hl 4 rfl) ?_
      refine x_roVi (As := []) S hK hP hD hZ (fun _ h => h) hA hS hA hl mwX11_good lkX11_146 (ctX11_good l D k z n mthrown mtaped msize (u_12.2.1 0) (u_12.2.1 1) (u_12.1 0) (u_12.1 1) (u_5.1 2) (u_5.1 3) mmoreMany mlawNow mwetSet moverAll mones mtwos mgone mroundNow msampleFor msampleAll maskWorst moftenAll moftenView moftenOnes (by omega) (by omega) (by omega) (by omega) (by omega)) [0] rfl (by decide) rfl rfl rfl rfl rfl ⟨Nat.le_of_ble_eq_true rfl, Nat.le_of_ble_eq_true rfl, Nat.le_of_ble_eq_true rfl⟩ dX11_readHead_90 ⟨Nat.le_of_ble_eq_true rfl, Nat.le_of_ble_eq_true rfl⟩ (fun r_19 H locs hr_19 hP hS => ?_)
      obtain rfl := hr_19
      refine lv_if_ne (tgt := 97) hx hb dX11_readHead_93 (by decide) (fun c_21 => ?_) (fun c_21 => ?_)
      · skip
        have c_21 : (u_5.1 2) = 0 := bo_1.mp c_21
        have k_22 := hg_10 c_21
        exact absurd k_22.2.2 c_3
      · skip
        have c_21 : ¬ ((u_5.1 2) = 0) := bo_0.mp c_21
        exact x_retv S hr hlk hQ hS ((fun i => ([(u_12.1 0), (u_12.1 1), (u_5.1 2), (u_5.1 3)] : List (Int32)).getD i 0), (fun i => ([u_12.2.1 0, u_12.2.1 1] : List (Nat)).getD i 0), (fun i => ([ffresh] : List (Nat → Int32)).getD i (fun _ => 0)), (fun i => ([] : List (Nat → Int64)).getD i (fun _ => 0)), (fun i => ([] : List (Int64)).getD i 0)) ⟨(show u_12.2.1 0 ≤ 600 by omega), (show u_12.2.1 1 ≤ 600 by omega), hkfresh, (show mfrom ≤ u_12.2.1 1 ∧ u_12.2.1 1 ≤ u_12.2.1 0 by omega), (fun hz => absurd hz c_21), (show wn ffresh 3 = wn ffresh 3 by omega)⟩ (x_B hP hD) dX11_readHead_96
    · skip
      have c_18 : isW (u_5.1 2) (u_5.1 0) (u_5.2.1 0) (u_5.2.1 1) ftape 6 := isB_1.mp c_18
      refine lv_aload_n hx hb dX11_readHead_76 rfl (lv_at hl 3 rfl) ?_
      refine lv_iconst (v := 1) hx hb dX11_readHead_77 (by decide) ?_
      refine lv_bipush (v := 16) hx hb dX11_readHead_78 (by decide) ?_
      refine x_muVi (wr := [((n 6), .inl (k 0, 99, .inl ffresh))]) (As := [.int 1, .int 16]) S hK hP hD hZ hS hA hl mwX11_number lkX11_176 (ctX11_number_n l D k z n mthrown mtaped msize (u_12.2.1 0) (u_12.2.1 1) (u_12.1 0) (u_12.1 1) (u_5.1 2) (u_5.1 3) mmoreMany mlawNow mwetSet moverAll mones mtwos mgone mroundNow msampleFor msampleAll maskWorst moftenAll moftenView moftenOnes ftape 1 16 (by omega) (by omega) (by omega) (by omega) (by omega) (by omega) (by omega) (by omega)) [0, 1] [2] rfl rfl (by decide) (by decide) (by decide) rfl rfl rfl rfl rfl ⟨Nat.le_of_ble_eq_true rfl, Nat.le_of_ble_eq_true rfl, Nat.le_of_ble_eq_true rfl⟩ dX11_readHead_80 ⟨Nat.le_of_ble_eq_true rfl, Nat.le_of_ble_eq_true rfl⟩ (fun r_23 u_24 H locs hr_23 hP hD hS => ?_)
      have hP : va_P D vwCl [((n 0), .inr (11, [.int mthrown, .ref (n 1), .ref (n 2), .ref (n 3), .ref (n 4), .int (nI mtaped), .ref (n 5), .int (nI msize), .int (nI (u_24.2.1 0)), .int (nI (u_24.2.1 1)), .int (u_24.1 0), .int (u_24.1 1), .int (u_24.1 2), .int (u_24.1 3), .ref (n 6), .ref (n 7), .ref (n 8), .ref (n 9), .ref (n 10), .ref (n 11), .ref (n 12), .int (nI mmoreMany), .int mlawNow, .int mwetSet, .int moverAll, .ref (n 13), .ref (n 14), .ref (n 15), .int mones, .int mtwos, .int mgone, .ref (n 16), .ref (n 17), .int mroundNow, .ref (n 18), .long msampleFor, .long msampleAll, .ref (n 19), .int maskWorst, .long moftenAll, .long moftenView, .long moftenOnes, .ref (n 20), .ref (n 21), .ref (n 22), .ref (n 23)])), ((n 4), .inl (k 1, 600, .inl ftape)), ((n 6), .inl (k 0, 99, .inl ffresh))] H := hP.sub [1, 2, 0] rfl
      have hD : va_D A [((n 0), .inr (11, [.int mthrown, .ref (n 1), .ref (n 2), .ref (n 3), .ref (n 4), .int (nI mtaped), .ref (n 5), .int (nI msize), .int (nI (u_24.2.1 0)), .int (nI (u_24.2.1 1)), .int (u_24.1 0), .int (u_24.1 1), .int (u_24.1 2), .int (u_24.1 3), .ref (n 6), .ref (n 7), .ref (n 8), .ref (n 9), .ref (n 10), .ref (n 11), .ref (n 12), .int (nI mmoreMany), .int mlawNow, .int mwetSet, .int moverAll, .ref (n 13), .ref (n 14), .ref (n 15), .int mones, .int mtwos, .int mgone, .ref (n 16), .ref (n 17), .int mroundNow, .ref (n 18), .long msampleFor, .long msampleAll, .ref (n 19), .int maskWorst, .long moftenAll, .long moftenView, .long moftenOnes, .ref (n 20), .ref (n 21), .ref (n 22), .ref (n 23)])), ((n 4), .inl (k 1, 600, .inl ftape)), ((n 6), .inl (k 0, 99, .inl ffresh))] := hD.sub [1, 2, 0] (by decide) rfl
      obtain ⟨⟨n_25, rfl, hn_25⟩, hg_26, hg_27, hg_28, hg_29⟩ := hr_23
      refine lv_goto (tgt := 87) hx hb dX11_readHead_83 (by decide) ?_
      refine lv_istore (lv' := [(4, .int (nI n_25)), (3, .int (nI n_6)), (2, .int (nI (13 + 2 * (wn ffresh 4)))), (1, .int (nI (9 + wn ffresh 3))), (0, .ref (n 0))]) hx hb dX11_readHead_87 hl (by decide) rfl (fun ls hl => ?_)
      refine lv_aload_n hx hb dX11_readHead_89 rfl (lv_at hl 4 rfl) ?_
      refine x_roVi (As := []) S hK hP hD hZ (fun _ h => h) hA hS hA hl mwX11_good lkX11_146 (ctX11_good l D k z n mthrown mtaped msize (u_24.2.1 0) (u_24.2.1 1) (u_24.1 0) (u_24.1 1) (u_24.1 2) (u_24.1 3) mmoreMany mlawNow mwetSet moverAll mones mtwos mgone mroundNow msampleFor msampleAll maskWorst moftenAll moftenView moftenOnes (by omega) (by omega) (by omega) (by omega) (by omega)) [0] rfl (by decide) rfl rfl rfl rfl rfl ⟨Nat.le_of_ble_eq_true rfl, Nat.le_of_ble_eq_true rfl, Nat.le_of_ble_eq_true rfl⟩ dX11_readHead_90 ⟨Nat.le_of_ble_eq_true rfl, Nat.le_of_ble_eq_true rfl⟩ (fun r_30 H locs hr_30 hP hS => ?_)
      obtain rfl := hr_30
      refine lv_if_ne (tgt := 97) hx hb dX11_readHead_93 (by decide) (fun c_32 => ?_) (fun c_32 => ?_)
      · skip
        have c_32 : (u_24.1 2) = 0 := bo_1.mp c_32
        have k_33 := hg_29 c_32
        have k_34 := hg_10 k_33.1
        exact absurd k_34.2.2 c_3
      · skip
        have c_32 : ¬ ((u_24.1 2) = 0) := bo_0.mp c_32
        exact x_retv S hr hlk hQ hS ((fun i => ([(u_24.1 0), (u_24.1 1), (u_24.1 2), (u_24.1 3)] : List (Int32)).getD i 0), (fun i => ([u_24.2.1 0, u_24.2.1 1] : List (Nat)).getD i 0), (fun i => ([ffresh] : List (Nat → Int32)).getD i (fun _ => 0)), (fun i => ([] : List (Nat → Int64)).getD i (fun _ => 0)), (fun i => ([] : List (Int64)).getD i 0)) ⟨(show u_24.2.1 0 ≤ 600 by omega), (show u_24.2.1 1 ≤ 600 by omega), hkfresh, (show mfrom ≤ u_24.2.1 1 ∧ u_24.2.1 1 ≤ u_24.2.1 0 by omega), (fun hz => absurd hz c_32), (show wn ffresh 3 = wn ffresh 3 by omega)⟩ (x_B hP hD) dX11_readHead_96
  · skip
    have c_3 : isW mfaultKind mtoken mat mfrom ftape 5 := isB_1.mp c_3
    refine lv_aload_n hx hb dX11_readHead_19 rfl (lv_at hl 1 rfl) ?_
    refine x_get S hK hP 0 rfl cfX11 14 lkX11_31 (by decide) rfl dX11_readHead_20 ?_
    refine lv_iload_n hx hb dX11_readHead_23 rfl (lv_at hl 0 rfl) ?_
    refine x_iald S hK hP 2 rfl (vp_in_nI (by omega) (by decide)) dX11_readHead_24 ?_
    refine x_is (nI (wn ffresh (9 + wn ffresh 3))) ((cl_at (f := ffresh) (a := 9 + wn ffresh 3) rfl (by omega)).trans (okW_at hkfresh (i := 9 + wn ffresh 3) (by omega))) ?_
    have hrw := okW_row hkfresh (j := wn ffresh 3) (by omega)
    refine lv_bipush (v := 8) hx hb dX11_readHead_25 (by decide) ?_
    refine lv_icmp_eq (tgt := 41) hx hb dX11_readHead_27 (by decide) (fun c_35 => ?_) (fun c_35 => ?_)
    · skip
      have c_35 : wn ffresh (9 + wn ffresh 3) = 8 := (ni_eq rfl (by decide) (by omega) (by omega)).mp c_35
      refine lv_aload_n hx hb dX11_readHead_41 rfl (lv_at hl 1 rfl) ?_
      refine lv_iconst (v := 3) hx hb dX11_readHead_42 (by decide) ?_
      refine x_muVv (wr := [((n 4), .inl (k 1, 600, .inl ftape)), ((n 6), .inl (k 0, 99, .inl ffresh))]) (As := [.int 3]) S hK hP hD hZ hS hA hl mwX11_errs lkX11_168 (ctX11_errs l D k z n mthrown mtaped msize mat mfrom mtoken mvalue mfaultKind mfaultPlace mmoreMany mlawNow mwetSet moverAll mones mtwos mgone mroundNow msampleFor msampleAll maskWorst moftenAll moftenView moftenOnes 3 (by omega) (by omega) (by omega) (by omega) (by omega) (by omega) (by omega)) [0] [1, 2] rfl rfl (by decide) (by decide) (by decide) rfl rfl rfl rfl rfl ⟨Nat.le_of_ble_eq_true rfl, Nat.le_of_ble_eq_true rfl, Nat.le_of_ble_eq_true rfl⟩ dX11_readHead_43 ⟨Nat.le_of_ble_eq_true rfl, Nat.le_of_ble_eq_true rfl⟩ (fun u_37 H locs hr_36 hP hD hS => ?_)
      have hP : va_P D vwCl [((n 0), .inr (11, [.int mthrown, .ref (n 1), .ref (n 2), .ref (n 3), .ref (n 4), .int (nI mtaped), .ref (n 5), .int (nI msize), .int (nI mat), .int (nI mfrom), .int mtoken, .int mvalue, .int (u_37.1 0), .int (u_37.1 1), .ref (n 6), .ref (n 7), .ref (n 8), .ref (n 9), .ref (n 10), .ref (n 11), .ref (n 12), .int (nI mmoreMany), .int mlawNow, .int mwetSet, .int moverAll, .ref (n 13), .ref (n 14), .ref (n 15), .int mones, .int mtwos, .int mgone, .ref (n 16), .ref (n 17), .int mroundNow, .ref (n 18), .long msampleFor, .long msampleAll, .ref (n 19), .int maskWorst, .long moftenAll, .long moftenView, .long moftenOnes, .ref (n 20), .ref (n 21), .ref (n 22), .ref (n 23)])), ((n 4), .inl (k 1, 600, .inl ftape)), ((n 6), .inl (k 0, 99, .inl ffresh))] H := hP.sub [2, 0, 1] rfl
      have hD : va_D A [((n 0), .inr (11, [.int mthrown, .ref (n 1), .ref (n 2), .ref (n 3), .ref (n 4), .int (nI mtaped), .ref (n 5), .int (nI msize), .int (nI mat), .int (nI mfrom), .int mtoken, .int mvalue, .int (u_37.1 0), .int (u_37.1 1), .ref (n 6), .ref (n 7), .ref (n 8), .ref (n 9), .ref (n 10), .ref (n 11), .ref (n 12), .int (nI mmoreMany), .int mlawNow, .int mwetSet, .int moverAll, .ref (n 13), .ref (n 14), .ref (n 15), .int mones, .int mtwos, .int mgone, .ref (n 16), .ref (n 17), .int mroundNow, .ref (n 18), .long msampleFor, .long msampleAll, .ref (n 19), .int maskWorst, .long moftenAll, .long moftenView, .long moftenOnes, .ref (n 20), .ref (n 21), .ref (n 22), .ref (n 23)])), ((n 4), .inl (k 1, 600, .inl ftape)), ((n 6), .inl (k 0, 99, .inl ffresh))] := hD.sub [2, 0, 1] (by decide) rfl
      have hg_38 := hr_36
      refine lv_bipush (v := 13) hx hb dX11_readHead_46 (by decide) ?_
      refine lv_iconst (v := 2) hx hb dX11_readHead_48 (by decide) ?_
      refine lv_aload_n hx hb dX11_readHead_49 rfl (lv_at hl 1 rfl) ?_
      refine x_get S hK hP 0 rfl cfX11 14 lkX11_31 (by decide) rfl dX11_readHead_50 ?_
      refine lv_iconst (v := 4) hx hb dX11_readHead_53 (by decide) ?_
      refine x_iald S hK hP 2 rfl (vp_lit (by decide)) dX11_readHead_54 ?_
      refine x_is (nI (wn ffresh 4)) ((cl_at (f := ffresh) (a := 4) (by decide) (by omega)).trans (okW_at hkfresh (i := 4) (by omega))) ?_
      refine lv_imul hx hb dX11_readHead_55 ?_
      refine x_is (nI (2 * (wn ffresh 4))) (ni_mul (by decide) rfl) ?_
      refine lv_iadd hx hb dX11_readHead_56 ?_
      refine x_is (nI (13 + 2 * (wn ffresh 4))) (ni_add (by decide) rfl) ?_
      refine lv_istore_n (lv' := [(2, .int (nI (13 + 2 * (wn ffresh 4)))), (1, .int (nI (9 + wn ffresh 3))), (0, .ref (n 0))]) hx hb dX11_readHead_57 rfl hl (by decide) rfl (fun ls hl => ?_)
      refine lv_aload_n hx hb dX11_readHead_58 rfl (lv_at hl 2 rfl) ?_
      refine x_ldcS S hZ lsX11_190 dX11_readHead_59 ?_
      refine lv_iconst (v := 1) hx hb dX11_readHead_61 (by decide) ?_
      refine lv_iconst (v := 4) hx hb dX11_readHead_62 (by decide) ?_
      refine x_muVi (wr := [((n 6), .inl (k 0, 99, .inl ffresh))]) (As := [.ref (z 5), .int 1, .int 4]) S hK hP hD hZ hS hA hl mwX11_told lkX11_182 (ctX11_told_n l D k z n mthrown mtaped msize mat mfrom mtoken mvalue (u_37.1 0) (u_37.1 1) mmoreMany mlawNow mwetSet moverAll mones mtwos mgone mroundNow msampleFor msampleAll maskWorst moftenAll moftenView moftenOnes ftape 5 1 4 (by omega) (by omega) (by omega) (by omega) (by omega) (by omega) (by omega) (by omega) (by omega)) [0, 1] [2] rfl rfl (by decide) (by decide) (by decide) rfl rfl rfl rfl rfl ⟨Nat.le_of_ble_eq_true rfl, Nat.le_of_ble_eq_true rfl, Nat.le_of_ble_eq_true rfl⟩ dX11_readHead_63 ⟨Nat.le_of_ble_eq_true rfl, Nat.le_of_ble_eq_true rfl⟩ (fun r_39 u_40 H locs hr_39 hP hD hS => ?_)
      have hP : va_P D vwCl [((n 0), .inr (11, [.int mthrown, .ref (n 1), .ref (n 2), .ref (n 3), .ref (n 4), .int (nI mtaped), .ref (n 5), .int (nI msize), .int (nI (u_40.2.1 0)), .int (nI (u_40.2.1 1)), .int (u_40.1 0), .int (u_40.1 1), .int (u_40.1 2), .int (u_40.1 3), .ref (n 6), .ref (n 7), .ref (n 8), .ref (n 9), .ref (n 10), .ref (n 11), .ref (n 12), .int (nI mmoreMany), .int mlawNow, .int mwetSet, .int moverAll, .ref (n 13), .ref (n 14), .ref (n 15), .int mones, .int mtwos, .int mgone, .ref (n 16), .ref (n 17), .int mroundNow, .ref (n 18), .long msampleFor, .long msampleAll, .ref (n 19), .int maskWorst, .long moftenAll, .long moftenView, .long moftenOnes, .ref (n 20), .ref (n 21), .ref (n 22), .ref (n 23)])), ((n 4), .inl (k 1, 600, .inl ftape)), ((n 6), .inl (k 0, 99, .inl ffresh))] H := hP.sub [1, 2, 0] rfl
      have hD : va_D A [((n 0), .inr (11, [.int mthrown, .ref (n 1), .ref (n 2), .ref (n 3), .ref (n 4), .int (nI mtaped), .ref (n 5), .int (nI msize), .int (nI (u_40.2.1 0)), .int (nI (u_40.2.1 1)), .int (u_40.1 0), .int (u_40.1 1), .int (u_40.1 2), .int (u_40.1 3), .ref (n 6), .ref (n 7), .ref (n 8), .ref (n 9), .ref (n 10), .ref (n 11), .ref (n 12), .int (nI mmoreMany), .int mlawNow, .int mwetSet, .int moverAll, .ref (n 13), .ref (n 14), .ref (n 15), .int mones, .int mtwos, .int mgone, .ref (n 16), .ref (n 17), .int mroundNow, .ref (n 18), .long msampleFor, .long msampleAll, .ref (n 19), .int maskWorst, .long moftenAll, .long moftenView, .long moftenOnes, .ref (n 20), .ref (n 21), .ref (n 22), .ref (n 23)])), ((n 4), .inl (k 1, 600, .inl ftape)), ((n 6), .inl (k 0, 99, .inl ffresh))] := hD.sub [1, 2, 0] (by decide) rfl
      obtain ⟨⟨n_41, rfl, hn_41⟩, hg_42, hg_43, hg_44, hg_45⟩ := hr_39
      refine lv_istore_n (lv' := [(3, .int (nI n_41)), (2, .int (nI (13 + 2 * (wn ffresh 4)))), (1, .int (nI (9 + wn ffresh 3))), (0, .ref (n 0))]) hx hb dX11_readHead_66 rfl hl (by decide) rfl (fun ls hl => ?_)
      refine lv_aload_n hx hb dX11_readHead_67 rfl (lv_at hl 3 rfl) ?_
      refine x_ldcS S hZ lsX11_192 dX11_readHead_68 ?_
      refine x_muVi (wr := [((n 6), .inl (k 0, 99, .inl ffresh))]) (As := [.ref (z 6)]) S hK hP hD hZ hS hA hl mwX11_takes lkX11_165 (ctX11_takes l D k z n mthrown mtaped msize (u_40.2.1 0) (u_40.2.1 1) (u_40.1 0) (u_40.1 1) (u_40.1 2) (u_40.1 3) mmoreMany mlawNow mwetSet moverAll mones mtwos mgone mroundNow msampleFor msampleAll maskWorst moftenAll moftenView moftenOnes ftape 6 (by omega) (by omega) (by omega) (by omega) (by omega) (by omega) (by omega)) [0, 1] [2] rfl rfl (by decide) (by decide) (by decide) rfl rfl rfl rfl rfl ⟨Nat.le_of_ble_eq_true rfl, Nat.le_of_ble_eq_true rfl, Nat.le_of_ble_eq_true rfl⟩ dX11_readHead_70 ⟨Nat.le_of_ble_eq_true rfl, Nat.le_of_ble_eq_true rfl⟩ (fun r_46 u_47 H locs hr_46 hP hD hS => ?_)
      have hP : va_P D vwCl [((n 0), .inr (11, [.int mthrown, .ref (n 1), .ref (n 2), .ref (n 3), .ref (n 4), .int (nI mtaped), .ref (n 5), .int (nI msize), .int (nI (u_47.2.1 0)), .int (nI (u_47.2.1 1)), .int (u_47.1 0), .int (u_47.1 1), .int (u_40.1 2), .int (u_40.1 3), .ref (n 6), .ref (n 7), .ref (n 8), .ref (n 9), .ref (n 10), .ref (n 11), .ref (n 12), .int (nI mmoreMany), .int mlawNow, .int mwetSet, .int moverAll, .ref (n 13), .ref (n 14), .ref (n 15), .int mones, .int mtwos, .int mgone, .ref (n 16), .ref (n 17), .int mroundNow, .ref (n 18), .long msampleFor, .long msampleAll, .ref (n 19), .int maskWorst, .long moftenAll, .long moftenView, .long moftenOnes, .ref (n 20), .ref (n 21), .ref (n 22), .ref (n 23)])), ((n 4), .inl (k 1, 600, .inl ftape)), ((n 6), .inl (k 0, 99, .inl ffresh))] H := hP.sub [1, 2, 0] rfl
      have hD : va_D A [((n 0), .inr (11, [.int mthrown, .ref (n 1), .ref (n 2), .ref (n 3), .ref (n 4), .int (nI mtaped), .ref (n 5), .int (nI msize), .int (nI (u_47.2.1 0)), .int (nI (u_47.2.1 1)), .int (u_47.1 0), .int (u_47.1 1), .int (u_40.1 2), .int (u_40.1 3), .ref (n 6), .ref (n 7), .ref (n 8), .ref (n 9), .ref (n 10), .ref (n 11), .ref (n 12), .int (nI mmoreMany), .int mlawNow, .int mwetSet, .int moverAll, .ref (n 13), .ref (n 14), .ref (n 15), .int mones, .int mtwos, .int mgone, .ref (n 16), .ref (n 17), .int mroundNow, .ref (n 18), .long msampleFor, .long msampleAll, .ref (n 19), .int maskWorst, .long moftenAll, .long moftenView, .long moftenOnes, .ref (n 20), .ref (n 21), .ref (n 22), .ref (n 23)])), ((n 4), .inl (k 1, 600, .inl ftape)), ((n 6), .inl (k 0, 99, .inl ffresh))] := hD.sub [1, 2, 0] (by decide) rfl
      obtain ⟨rfl, hg_48, hg_49, hg_50, hg_51, hg_52⟩ := hr_46
      refine lv_if_eq (tgt := 86) hx hb dX11_readHead_73 (by decide) (fun c_53 => ?_) (fun c_53 => ?_)
      · skip
        have c_53 : ¬ (isW (u_40.1 2) (u_40.1 0) (u_40.2.1 0) (u_40.2.1 1) ftape 6) := isB_0.mp c_53
        refine lv_iconst (v := 0) hx hb dX11_readHead_86 (by decide) ?_
        refine lv_istore (lv' := [(4, .int 0), (3, .int (nI n_41)), (2, .int (nI (13 + 2 * (wn ffresh 4)))), (1, .int (nI (9 + wn ffresh 3))), (0, .ref (n 0))]) hx hb dX11_readHead_87 hl (by decide) rfl (fun ls hl => ?_)
        refine lv_aload_n hx hb dX11_readHead_89 rfl (lv_at hl 4 rfl) ?_
        refine x_roVi (As := []) S hK hP hD hZ (fun _ h => h) hA hS hA hl mwX11_good lkX11_146 (ctX11_good l D k z n mthrown mtaped msize (u_47.2.1 0) (u_47.2.1 1) (u_47.1 0) (u_47.1 1) (u_40.1 2) (u_40.1 3) mmoreMany mlawNow mwetSet moverAll mones mtwos mgone mroundNow msampleFor msampleAll maskWorst moftenAll moftenView moftenOnes (by omega) (by omega) (by omega) (by omega) (by omega)) [0] rfl (by decide) rfl rfl rfl rfl rfl ⟨Nat.le_of_ble_eq_true rfl, Nat.le_of_ble_eq_true rfl, Nat.le_of_ble_eq_true rfl⟩ dX11_readHead_90 ⟨Nat.le_of_ble_eq_true rfl, Nat.le_of_ble_eq_true rfl⟩ (fun r_54 H locs hr_54 hP hS => ?_)
        obtain rfl := hr_54
        refine lv_if_ne (tgt := 97) hx hb dX11_readHead_93 (by decide) (fun c_56 => ?_) (fun c_56 => ?_)
        · skip
          have c_56 : (u_40.1 2) = 0 := bo_1.mp c_56
          have k_57 := hg_45 c_56
          exact absurd k_57.1 hg_38
        · skip
          have c_56 : ¬ ((u_40.1 2) = 0) := bo_0.mp c_56
          exact x_retv S hr hlk hQ hS ((fun i => ([(u_47.1 0), (u_47.1 1), (u_40.1 2), (u_40.1 3)] : List (Int32)).getD i 0), (fun i => ([u_47.2.1 0, u_47.2.1 1] : List (Nat)).getD i 0), (fun i => ([ffresh] : List (Nat → Int32)).getD i (fun _ => 0)), (fun i => ([] : List (Nat → Int64)).getD i (fun _ => 0)), (fun i => ([] : List (Int64)).getD i 0)) ⟨(show u_47.2.1 0 ≤ 600 by omega), (show u_47.2.1 1 ≤ 600 by omega), hkfresh, (show mfrom ≤ u_47.2.1 1 ∧ u_47.2.1 1 ≤ u_47.2.1 0 by omega), (fun hz => absurd hz c_56), (show wn ffresh 3 = wn ffresh 3 by omega)⟩ (x_B hP hD) dX11_readHead_96
      · skip
        have c_53 : isW (u_40.1 2) (u_40.1 0) (u_40.2.1 0) (u_40.2.1 1) ftape 6 := isB_1.mp c_53
        refine lv_aload_n hx hb dX11_readHead_76 rfl (lv_at hl 3 rfl) ?_
        refine lv_iconst (v := 1) hx hb dX11_readHead_77 (by decide) ?_
        refine lv_bipush (v := 16) hx hb dX11_readHead_78 (by decide) ?_
        refine x_muVi (wr := [((n 6), .inl (k 0, 99, .inl ffresh))]) (As := [.int 1, .int 16]) S hK hP hD hZ hS hA hl mwX11_number lkX11_176 (ctX11_number_n l D k z n mthrown mtaped msize (u_47.2.1 0) (u_47.2.1 1) (u_47.1 0) (u_47.1 1) (u_40.1 2) (u_40.1 3) mmoreMany mlawNow mwetSet moverAll mones mtwos mgone mroundNow msampleFor msampleAll maskWorst moftenAll moftenView moftenOnes ftape 1 16 (by omega) (by omega) (by omega) (by omega) (by omega) (by omega) (by omega) (by omega)) [0, 1] [2] rfl rfl (by decide) (by decide) (by decide) rfl rfl rfl rfl rfl ⟨Nat.le_of_ble_eq_true rfl, Nat.le_of_ble_eq_true rfl, Nat.le_of_ble_eq_true rfl⟩ dX11_readHead_80 ⟨Nat.le_of_ble_eq_true rfl, Nat.le_of_ble_eq_true rfl⟩ (fun r_58 u_59 H locs hr_58 hP hD hS => ?_)
        have hP : va_P D vwCl [((n 0), .inr (11, [.int mthrown, .ref (n 1), .ref (n 2), .ref (n 3), .ref (n 4), .int (nI mtaped), .ref (n 5), .int (nI msize), .int (nI (u_59.2.1 0)), .int (nI (u_59.2.1 1)), .int (u_59.1 0), .int (u_59.1 1), .int (u_59.1 2), .int (u_59.1 3), .ref (n 6), .ref (n 7), .ref (n 8), .ref (n 9), .ref (n 10), .ref (n 11), .ref (n 12), .int (nI mmoreMany), .int mlawNow, .int mwetSet, .int moverAll, .ref (n 13), .ref (n 14), .ref (n 15), .int mones, .int mtwos, .int mgone, .ref (n 16), .ref (n 17), .int mroundNow, .ref (n 18), .long msampleFor, .long msampleAll, .ref (n 19), .int maskWorst, .long moftenAll, .long moftenView, .long moftenOnes, .ref (n 20), .ref (n 21), .ref (n 22), .ref (n 23)])), ((n 4), .inl (k 1, 600, .inl ftape)), ((n 6), .inl (k 0, 99, .inl ffresh))] H := hP.sub [1, 2, 0] rfl
        have hD : va_D A [((n 0), .inr (11, [.int mthrown, .ref (n 1), .ref (n 2), .ref (n 3), .ref (n 4), .int (nI mtaped), .ref (n 5), .int (nI msize), .int (nI (u_59.2.1 0)), .int (nI (u_59.2.1 1)), .int (u_59.1 0), .int (u_59.1 1), .int (u_59.1 2), .int (u_59.1 3), .ref (n 6), .ref (n 7), .ref (n 8), .ref (n 9), .ref (n 10), .ref (n 11), .ref (n 12), .int (nI mmoreMany), .int mlawNow, .int mwetSet, .int moverAll, .ref (n 13), .ref (n 14), .ref (n 15), .int mones, .int mtwos, .int mgone, .ref (n 16), .ref (n 17), .int mroundNow, .ref (n 18), .long msampleFor, .long msampleAll, .ref (n 19), .int maskWorst, .long moftenAll, .long moftenView, .long moftenOnes, .ref (n 20), .ref (n 21), .ref (n 22), .ref (n 23)])), ((n 4), .inl (k 1, 600, .inl ftape)), ((n 6), .inl (k 0, 99, .inl ffresh))] := hD.sub [1, 2, 0] (by decide) rfl
        obtain ⟨⟨n_60, rfl, hn_60⟩, hg_61, hg_62, hg_63, hg_64⟩ := hr_58
        refine lv_goto (tgt := 87) hx hb dX11_readHead_83 (by decide) ?_
        refine lv_istore (lv' := [(4, .int (nI n_60)), (3, .int (nI n_41)), (2, .int (nI (13 + 2 * (wn ffresh 4)))), (1, .int (nI (9 + wn ffresh 3))), (0, .ref (n 0))]) hx hb dX11_readHead_87 hl (by decide) rfl (fun ls hl => ?_)
        refine lv_aload_n hx hb dX11_readHead_89 rfl (lv_at hl 4 rfl) ?_
        refine x_roVi (As := []) S hK hP hD hZ (fun _ h => h) hA hS hA hl mwX11_good lkX11_146 (ctX11_good l D k z n mthrown mtaped msize (u_59.2.1 0) (u_59.2.1 1) (u_59.1 0) (u_59.1 1) (u_59.1 2) (u_59.1 3) mmoreMany mlawNow mwetSet moverAll mones mtwos mgone mroundNow msampleFor msampleAll maskWorst moftenAll moftenView moftenOnes (by omega) (by omega) (by omega) (by omega) (by omega)) [0] rfl (by decide) rfl rfl rfl rfl rfl ⟨Nat.le_of_ble_eq_true rfl, Nat.le_of_ble_eq_true rfl, Nat.le_of_ble_eq_true rfl⟩ dX11_readHead_90 ⟨Nat.le_of_ble_eq_true rfl, Nat.le_of_ble_eq_true rfl⟩ (fun r_65 H locs hr_65 hP hS => ?_)
        obtain rfl := hr_65
        refine lv_if_ne (tgt := 97) hx hb dX11_readHead_93 (by decide) (fun c_67 => ?_) (fun c_67 => ?_)
        · skip
          have c_67 : (u_59.1 2) = 0 := bo_1.mp c_67
          have k_68 := hg_64 c_67
          have k_69 := hg_45 k_68.1
          exact absurd k_69.1 hg_38
        · skip
          have c_67 : ¬ ((u_59.1 2) = 0) := bo_0.mp c_67
          exact x_retv S hr hlk hQ hS ((fun i => ([(u_59.1 0), (u_59.1 1), (u_59.1 2), (u_59.1 3)] : List (Int32)).getD i 0), (fun i => ([u_59.2.1 0, u_59.2.1 1] : List (Nat)).getD i 0), (fun i => ([ffresh] : List (Nat → Int32)).getD i (fun _ => 0)), (fun i => ([] : List (Nat → Int64)).getD i (fun _ => 0)), (fun i => ([] : List (Int64)).getD i 0)) ⟨(show u_59.2.1 0 ≤ 600 by omega), (show u_59.2.1 1 ≤ 600 by omega), hkfresh, (show mfrom ≤ u_59.2.1 1 ∧ u_59.2.1 1 ≤ u_59.2.1 0 by omega), (fun hz => absurd hz c_67), (show wn ffresh 3 = wn ffresh 3 by omega)⟩ (x_B hP hD) dX11_readHead_96
    · skip
      have c_35 : ¬ wn ffresh (9 + wn ffresh 3) = 8 := fun q => c_35 ((ni_eq rfl (by decide) (by omega) (by omega)).mpr q)
      refine lv_aload_n hx hb dX11_readHead_30 rfl (lv_at hl 1 rfl) ?_
      refine x_get S hK hP 0 rfl cfX11 14 lkX11_31 (by decide) rfl dX11_readHead_31 ?_
      refine lv_iconst (v := 4) hx hb dX11_readHead_34 (by decide) ?_
      refine x_iald S hK hP 2 rfl (vp_lit (by decide)) dX11_readHead_35 ?_
      refine x_is (nI (wn ffresh 4)) ((cl_at (f := ffresh) (a := 4) (by decide) (by omega)).trans (okW_at hkfresh (i := 4) (by omega))) ?_
      refine lv_bipush (v := 12) hx hb dX11_readHead_36 (by decide) ?_
      refine lv_icmp_ne (tgt := 46) hx hb dX11_readHead_38 (by decide) (fun c_70 => ?_) (fun c_70 => ?_)
      · skip
        have c_70 : ¬ wn ffresh 4 = 12 := fun q => c_70 ((ni_eq rfl (by decide) (by omega) (by omega)).mpr q)
        refine lv_bipush (v := 13) hx hb dX11_readHead_46 (by decide) ?_
        refine lv_iconst (v := 2) hx hb dX11_readHead_48 (by decide) ?_
        refine lv_aload_n hx hb dX11_readHead_49 rfl (lv_at hl 1 rfl) ?_
        refine x_get S hK hP 0 rfl cfX11 14 lkX11_31 (by decide) rfl dX11_readHead_50 ?_
        refine lv_iconst (v := 4) hx hb dX11_readHead_53 (by decide) ?_
        refine x_iald S hK hP 2 rfl (vp_lit (by decide)) dX11_readHead_54 ?_
        refine x_is (nI (wn ffresh 4)) ((cl_at (f := ffresh) (a := 4) (by decide) (by omega)).trans (okW_at hkfresh (i := 4) (by omega))) ?_
        refine lv_imul hx hb dX11_readHead_55 ?_
        refine x_is (nI (2 * (wn ffresh 4))) (ni_mul (by decide) rfl) ?_
        refine lv_iadd hx hb dX11_readHead_56 ?_
        refine x_is (nI (13 + 2 * (wn ffresh 4))) (ni_add (by decide) rfl) ?_
        refine lv_istore_n (lv' := [(2, .int (nI (13 + 2 * (wn ffresh 4)))), (1, .int (nI (9 + wn ffresh 3))), (0, .ref (n 0))]) hx hb dX11_readHead_57 rfl hl (by decide) rfl (fun ls hl => ?_)
        refine lv_aload_n hx hb dX11_readHead_58 rfl (lv_at hl 2 rfl) ?_
        refine x_ldcS S hZ lsX11_190 dX11_readHead_59 ?_
        refine lv_iconst (v := 1) hx hb dX11_readHead_61 (by decide) ?_
        refine lv_iconst (v := 4) hx hb dX11_readHead_62 (by decide) ?_
        refine x_muVi (wr := [((n 6), .inl (k 0, 99, .inl ffresh))]) (As := [.ref (z 5), .int 1, .int 4]) S hK hP hD hZ hS hA hl mwX11_told lkX11_182 (ctX11_told_n l D k z n mthrown mtaped msize mat mfrom mtoken mvalue mfaultKind mfaultPlace mmoreMany mlawNow mwetSet moverAll mones mtwos mgone mroundNow msampleFor msampleAll maskWorst moftenAll moftenView moftenOnes ftape 5 1 4 (by omega) (by omega) (by omega) (by omega) (by omega) (by omega) (by omega) (by omega) (by omega)) [0, 1] [2] rfl rfl (by decide) (by decide) (by decide) rfl rfl rfl rfl rfl ⟨Nat.le_of_ble_eq_true rfl, Nat.le_of_ble_eq_true rfl, Nat.le_of_ble_eq_true rfl⟩ dX11_readHead_63 ⟨Nat.le_of_ble_eq_true rfl, Nat.le_of_ble_eq_true rfl⟩ (fun r_71 u_72 H locs hr_71 hP hD hS => ?_)
        have hP : va_P D vwCl [((n 0), .inr (11, [.int mthrown, .ref (n 1), .ref (n 2), .ref (n 3), .ref (n 4), .int (nI mtaped), .ref (n 5), .int (nI msize), .int (nI (u_72.2.1 0)), .int (nI (u_72.2.1 1)), .int (u_72.1 0), .int (u_72.1 1), .int (u_72.1 2), .int (u_72.1 3), .ref (n 6), .ref (n 7), .ref (n 8), .ref (n 9), .ref (n 10), .ref (n 11), .ref (n 12), .int (nI mmoreMany), .int mlawNow, .int mwetSet, .int moverAll, .ref (n 13), .ref (n 14), .ref (n 15), .int mones, .int mtwos, .int mgone, .ref (n 16), .ref (n 17), .int mroundNow, .ref (n 18), .long msampleFor, .long msampleAll, .ref (n 19), .int maskWorst, .long moftenAll, .long moftenView, .long moftenOnes, .ref (n 20), .ref (n 21), .ref (n 22), .ref (n 23)])), ((n 4), .inl (k 1, 600, .inl ftape)), ((n 6), .inl (k 0, 99, .inl ffresh))] H := hP.sub [1, 2, 0] rfl
        have hD : va_D A [((n 0), .inr (11, [.int mthrown, .ref (n 1), .ref (n 2), .ref (n 3), .ref (n 4), .int (nI mtaped), .ref (n 5), .int (nI msize), .int (nI (u_72.2.1 0)), .int (nI (u_72.2.1 1)), .int (u_72.1 0), .int (u_72.1 1), .int (u_72.1 2), .int (u_72.1 3), .ref (n 6), .ref (n 7), .ref (n 8), .ref (n 9), .ref (n 10), .ref (n 11), .ref (n 12), .int (nI mmoreMany), .int mlawNow, .int mwetSet, .int moverAll, .ref (n 13), .ref (n 14), .ref (n 15), .int mones, .int mtwos, .int mgone, .ref (n 16), .ref (n 17), .int mroundNow, .ref (n 18), .long msampleFor, .long msampleAll, .ref (n 19), .int maskWorst, .long moftenAll, .long moftenView, .long moftenOnes, .ref (n 20), .ref (n 21), .ref (n 22), .ref (n 23)])), ((n 4), .inl (k 1, 600, .inl ftape)), ((n 6), .inl (k 0, 99, .inl ffresh))] := hD.sub [1, 2, 0] (by decide) rfl
        obtain ⟨⟨n_73, rfl, hn_73⟩, hg_74, hg_75, hg_76, hg_77⟩ := hr_71
        refine lv_istore_n (lv' := [(3, .int (nI n_73)), (2, .int (nI (13 + 2 * (wn ffresh 4)))), (1, .int (nI (9 + wn ffresh 3))), (0, .ref (n 0))]) hx hb dX11_readHead_66 rfl hl (by decide) rfl (fun ls hl => ?_)
        refine lv_aload_n hx hb dX11_readHead_67 rfl (lv_at hl 3 rfl) ?_
        refine x_ldcS S hZ lsX11_192 dX11_readHead_68 ?_
        refine x_muVi (wr := [((n 6), .inl (k 0, 99, .inl ffresh))]) (As := [.ref (z 6)]) S hK hP hD hZ hS hA hl mwX11_takes lkX11_165 (ctX11_takes l D k z n mthrown mtaped msize (u_72.2.1 0) (u_72.2.1 1) (u_72.1 0) (u_72.1 1) (u_72.1 2) (u_72.1 3) mmoreMany mlawNow mwetSet moverAll mones mtwos mgone mroundNow msampleFor msampleAll maskWorst moftenAll moftenView moftenOnes ftape 6 (by omega) (by omega) (by omega) (by omega) (by omega) (by omega) (by omega)) [0, 1] [2] rfl rfl (by decide) (by decide) (by decide) rfl rfl rfl rfl rfl ⟨Nat.le_of_ble_eq_true rfl, Nat.le_of_ble_eq_true rfl, Nat.le_of_ble_eq_true rfl⟩ dX11_readHead_70 ⟨Nat.le_of_ble_eq_true rfl, Nat.le_of_ble_eq_true rfl⟩ (fun r_78 u_79 H locs hr_78 hP hD hS => ?_)
        have hP : va_P D vwCl [((n 0), .inr (11, [.int mthrown, .ref (n 1), .ref (n 2), .ref (n 3), .ref (n 4), .int (nI mtaped), .ref (n 5), .int (nI msize), .int (nI (u_79.2.1 0)), .int (nI (u_79.2.1 1)), .int (u_79.1 0), .int (u_79.1 1), .int (u_72.1 2), .int (u_72.1 3), .ref (n 6), .ref (n 7), .ref (n 8), .ref (n 9), .ref (n 10), .ref (n 11), .ref (n 12), .int (nI mmoreMany), .int mlawNow, .int mwetSet, .int moverAll, .ref (n 13), .ref (n 14), .ref (n 15), .int mones, .int mtwos, .int mgone, .ref (n 16), .ref (n 17), .int mroundNow, .ref (n 18), .long msampleFor, .long msampleAll, .ref (n 19), .int maskWorst, .long moftenAll, .long moftenView, .long moftenOnes, .ref (n 20), .ref (n 21), .ref (n 22), .ref (n 23)])), ((n 4), .inl (k 1, 600, .inl ftape)), ((n 6), .inl (k 0, 99, .inl ffresh))] H := hP.sub [1, 2, 0] rfl
        have hD : va_D A [((n 0), .inr (11, [.int mthrown, .ref (n 1), .ref (n 2), .ref (n 3), .ref (n 4), .int (nI mtaped), .ref (n 5), .int (nI msize), .int (nI (u_79.2.1 0)), .int (nI (u_79.2.1 1)), .int (u_79.1 0), .int (u_79.1 1), .int (u_72.1 2), .int (u_72.1 3), .ref (n 6), .ref (n 7), .ref (n 8), .ref (n 9), .ref (n 10), .ref (n 11), .ref (n 12), .int (nI mmoreMany), .int mlawNow, .int mwetSet, .int moverAll, .ref (n 13), .ref (n 14), .ref (n 15), .int mones, .int mtwos, .int mgone, .ref (n 16), .ref (n 17), .int mroundNow, .ref (n 18), .long msampleFor, .long msampleAll, .ref (n 19), .int maskWorst, .long moftenAll, .long moftenView, .long moftenOnes, .ref (n 20), .ref (n 21), .ref (n 22), .ref (n 23)])), ((n 4), .inl (k 1, 600, .inl ftape)), ((n 6), .inl (k 0, 99, .inl ffresh))] := hD.sub [1, 2, 0] (by decide) rfl
        obtain ⟨rfl, hg_80, hg_81, hg_82, hg_83, hg_84⟩ := hr_78
        refine lv_if_eq (tgt := 86) hx hb dX11_readHead_73 (by decide) (fun c_85 => ?_) (fun c_85 => ?_)
        · skip
          have c_85 : ¬ (isW (u_72.1 2) (u_72.1 0) (u_72.2.1 0) (u_72.2.1 1) ftape 6) := isB_0.mp c_85
          refine lv_iconst (v := 0) hx hb dX11_readHead_86 (by decide) ?_
          refine lv_istore (lv' := [(4, .int 0), (3, .int (nI n_73)), (2, .int (nI (13 + 2 * (wn ffresh 4)))), (1, .int (nI (9 + wn ffresh 3))), (0, .ref (n 0))]) hx hb dX11_readHead_87 hl (by decide) rfl (fun ls hl => ?_)
          refine lv_aload_n hx hb dX11_readHead_89 rfl (lv_at hl 4 rfl) ?_
          refine x_roVi (As := []) S hK hP hD hZ (fun _ h => h) hA hS hA hl mwX11_good lkX11_146 (ctX11_good l D k z n mthrown mtaped msize (u_79.2.1 0) (u_79.2.1 1) (u_79.1 0) (u_79.1 1) (u_72.1 2) (u_72.1 3) mmoreMany mlawNow mwetSet moverAll mones mtwos mgone mroundNow msampleFor msampleAll maskWorst moftenAll moftenView moftenOnes (by omega) (by omega) (by omega) (by omega) (by omega)) [0] rfl (by decide) rfl rfl rfl rfl rfl ⟨Nat.le_of_ble_eq_true rfl, Nat.le_of_ble_eq_true rfl, Nat.le_of_ble_eq_true rfl⟩ dX11_readHead_90 ⟨Nat.le_of_ble_eq_true rfl, Nat.le_of_ble_eq_true rfl⟩ (fun r_86 H locs hr_86 hP hS => ?_)
          obtain rfl := hr_86
          refine lv_if_ne (tgt := 97) hx hb dX11_readHead_93 (by decide) (fun c_88 => ?_) (fun c_88 => ?_)
          · skip
            have c_88 : (u_72.1 2) = 0 := bo_1.mp c_88
            have k_89 := hg_77 c_88
            refine lv_aload_n hx hb dX11_readHead_97 rfl (lv_at hl 4 rfl) ?_
            refine x_get S hK hP 0 rfl cfX11 14 lkX11_31 (by decide) rfl dX11_readHead_98 ?_
            refine lv_iload_n hx hb dX11_readHead_101 rfl (lv_at hl 2 rfl) ?_
            refine lv_iload_n hx hb dX11_readHead_102 rfl (lv_at hl 1 rfl) ?_
            refine x_iast (ws' := fun f_90 => [((n 0), .inr (11, [.int mthrown, .ref (n 1), .ref (n 2), .ref (n 3), .ref (n 4), .int (nI mtaped), .ref (n 5), .int (nI msize), .int (nI (u_79.2.1 0)), .int (nI (u_79.2.1 1)), .int (u_79.1 0), .int (u_79.1 1), .int (u_72.1 2), .int (u_72.1 3), .ref (n 6), .ref (n 7), .ref (n 8), .ref (n 9), .ref (n 10), .ref (n 11), .ref (n 12), .int (nI mmoreMany), .int mlawNow, .int mwetSet, .int moverAll, .ref (n 13), .ref (n 14), .ref (n 15), .int mones, .int mtwos, .int mgone, .ref (n 16), .ref (n 17), .int mroundNow, .ref (n 18), .long msampleFor, .long msampleAll, .ref (n 19), .int maskWorst, .long moftenAll, .long moftenView, .long moftenOnes, .ref (n 20), .ref (n 21), .ref (n 22), .ref (n 23)])), ((n 4), .inl (k 1, 600, .inl ftape)), ((n 6), .inl (k 0, 99, .inl f_90))]) S hK hP hD hS 2 rfl (vp_in_nI (by omega) (by decide)) (fun _ => rfl) dX11_readHead_103 (fun f_90 H locs ef_90 hP hD hS => ?_)
            obtain ⟨hif_90, hbf_90⟩ := okW_hi ef_90 hkfresh (a := 13 + 2 * (wn ffresh 4)) rfl (by omega) (by omega)
            refine lv_aload_n hx hb dX11_readHead_104 rfl (lv_at hl 4 rfl) ?_
            refine x_get S hK hP 0 rfl cfX11 14 lkX11_31 (by decide) rfl dX11_readHead_105 ?_
            refine lv_iload_n hx hb dX11_readHead_108 rfl (lv_at hl 2 rfl) ?_
            refine lv_iconst (v := 1) hx hb dX11_readHead_109 (by decide) ?_
            refine lv_iadd hx hb dX11_readHead_110 ?_
            refine x_is (nI (13 + 2 * (wn ffresh 4) + 1)) (ni_add rfl (by decide)) ?_
            refine lv_iload hx hb dX11_readHead_111 (lv_at hl 0 rfl) ?_
            refine x_iast (ws' := fun f_91 => [((n 0), .inr (11, [.int mthrown, .ref (n 1), .ref (n 2), .ref (n 3), .ref (n 4), .int (nI mtaped), .ref (n 5), .int (nI msize), .int (nI (u_79.2.1 0)), .int (nI (u_79.2.1 1)), .int (u_79.1 0), .int (u_79.1 1), .int (u_72.1 2), .int (u_72.1 3), .ref (n 6), .ref (n 7), .ref (n 8), .ref (n 9), .ref (n 10), .ref (n 11), .ref (n 12), .int (nI mmoreMany), .int mlawNow, .int mwetSet, .int moverAll, .ref (n 13), .ref (n 14), .ref (n 15), .int mones, .int mtwos, .int mgone, .ref (n 16), .ref (n 17), .int mroundNow, .ref (n 18), .long msampleFor, .long msampleAll, .ref (n 19), .int maskWorst, .long moftenAll, .long moftenView, .long moftenOnes, .ref (n 20), .ref (n 21), .ref (n 22), .ref (n 23)])), ((n 4), .inl (k 1, 600, .inl ftape)), ((n 6), .inl (k 0, 99, .inl f_91))]) S hK hP hD hS 2 rfl (vp_in_nI (by omega) (by decide)) (fun _ => rfl) dX11_readHead_113 (fun f_91 H locs ef_91 hP hD hS => ?_)
            obtain ⟨hif_91, hbf_91⟩ := okW_hi ef_91 hif_90 (a := 13 + 2 * (wn ffresh 4) + 1) rfl (by omega) (by omega)
            refine lv_aload_n hx hb dX11_readHead_114 rfl (lv_at hl 4 rfl) ?_
            refine x_get S hK hP 0 rfl cfX11 14 lkX11_31 (by decide) rfl dX11_readHead_115 ?_
            refine lv_iload_n hx hb dX11_readHead_118 rfl (lv_at hl 3 rfl) ?_
            refine lv_dup2_11 hx hb dX11_readHead_119 rfl rfl ?_
            refine x_iald S hK hP 2 rfl (vp_in_nI (by omega) (by decide)) dX11_readHead_120 ?_
            refine x_is (nI (wn f_91 (9 + wn ffresh 3))) ((cl_at (f := f_91) (a := 9 + wn ffresh 3) rfl (by omega)).trans (okW_at hif_91 (i := 9 + wn ffresh 3) (by omega))) ?_
            have hrw := okW_row hif_91 (j := wn ffresh 3) (by omega)
            refine lv_iconst (v := 1) hx hb dX11_readHead_121 (by decide) ?_
            refine lv_iadd hx hb dX11_readHead_122 ?_
            refine x_is (nI (wn f_91 (9 + wn ffresh 3) + 1)) (ni_add rfl (by decide)) ?_
            refine x_iast (ws' := fun f_92 => [((n 0), .inr (11, [.int mthrown, .ref (n 1), .ref (n 2), .ref (n 3), .ref (n 4), .int (nI mtaped), .ref (n 5), .int (nI msize), .int (nI (u_79.2.1 0)), .int (nI (u_79.2.1 1)), .int (u_79.1 0), .int (u_79.1 1), .int (u_72.1 2), .int (u_72.1 3), .ref (n 6), .ref (n 7), .ref (n 8), .ref (n 9), .ref (n 10), .ref (n 11), .ref (n 12), .int (nI mmoreMany), .int mlawNow, .int mwetSet, .int moverAll, .ref (n 13), .ref (n 14), .ref (n 15), .int mones, .int mtwos, .int mgone, .ref (n 16), .ref (n 17), .int mroundNow, .ref (n 18), .long msampleFor, .long msampleAll, .ref (n 19), .int maskWorst, .long moftenAll, .long moftenView, .long moftenOnes, .ref (n 20), .ref (n 21), .ref (n 22), .ref (n 23)])), ((n 4), .inl (k 1, 600, .inl ftape)), ((n 6), .inl (k 0, 99, .inl f_92))]) S hK hP hD hS 2 rfl (vp_in_nI (by omega) (by decide)) (fun _ => rfl) dX11_readHead_123 (fun f_92 H locs ef_92 hP hD hS => ?_)
            have e1f_92 := okW_e9 (j := wn ffresh 3) ef_92 rfl (by omega) (q := wn f_91 (9 + wn ffresh 3) + 1) rfl
            refine lv_aload_n hx hb dX11_readHead_124 rfl (lv_at hl 4 rfl) ?_
            refine x_get S hK hP 0 rfl cfX11 14 lkX11_31 (by decide) rfl dX11_readHead_125 ?_
            refine lv_iconst (v := 4) hx hb dX11_readHead_128 (by decide) ?_
            refine lv_dup2_11 hx hb dX11_readHead_129 rfl rfl ?_
            refine x_iald S hK hP 2 rfl (vp_lit (by decide)) dX11_readHead_130 ?_
            refine x_is (nI (wn f_91 4)) ((cl_at (f := f_92) (a := 4) (by decide) (by omega)).trans (okW_p4 e1f_92 hif_91 (by omega))) ?_
            refine lv_iconst (v := 1) hx hb dX11_readHead_131 (by decide) ?_
            refine lv_iadd hx hb dX11_readHead_132 ?_
            refine x_is (nI (wn f_91 4 + 1)) (ni_add rfl (by decide)) ?_
            refine x_iast (ws' := fun f_93 => [((n 0), .inr (11, [.int mthrown, .ref (n 1), .ref (n 2), .ref (n 3), .ref (n 4), .int (nI mtaped), .ref (n 5), .int (nI msize), .int (nI (u_79.2.1 0)), .int (nI (u_79.2.1 1)), .int (u_79.1 0), .int (u_79.1 1), .int (u_72.1 2), .int (u_72.1 3), .ref (n 6), .ref (n 7), .ref (n 8), .ref (n 9), .ref (n 10), .ref (n 11), .ref (n 12), .int (nI mmoreMany), .int mlawNow, .int mwetSet, .int moverAll, .ref (n 13), .ref (n 14), .ref (n 15), .int mones, .int mtwos, .int mgone, .ref (n 16), .ref (n 17), .int mroundNow, .ref (n 18), .long msampleFor, .long msampleAll, .ref (n 19), .int maskWorst, .long moftenAll, .long moftenView, .long moftenOnes, .ref (n 20), .ref (n 21), .ref (n 22), .ref (n 23)])), ((n 4), .inl (k 1, 600, .inl ftape)), ((n 6), .inl (k 0, 99, .inl f_93))]) S hK hP hD hS 2 rfl (vp_lit (by decide)) (fun _ => rfl) dX11_readHead_133 (fun f_93 H locs ef_93 hP hD hS => ?_)
            obtain ⟨hif_93, hbf_93⟩ := okW_head hif_91 e1f_92 ef_93 (by decide) rfl (by omega) (by omega)
            exact x_retv S hr hlk hQ hS ((fun i => ([(u_79.1 0), (u_79.1 1), (u_72.1 2), (u_72.1 3)] : List (Int32)).getD i 0), (fun i => ([u_79.2.1 0, u_79.2.1 1] : List (Nat)).getD i 0), (fun i => ([f_93] : List (Nat → Int32)).getD i (fun _ => 0)), (fun i => ([] : List (Nat → Int64)).getD i (fun _ => 0)), (fun i => ([] : List (Int64)).getD i 0)) ⟨(show u_79.2.1 0 ≤ 600 by omega), (show u_79.2.1 1 ≤ 600 by omega), hif_93, (show mfrom ≤ u_79.2.1 1 ∧ u_79.2.1 1 ≤ u_79.2.1 0 by omega), (fun hz => (show mfaultKind = 0 ∧ mfrom < u_79.2.1 1 by have k_94 := hg_77 hz; exact ⟨k_94.1, by omega⟩)), (show wn f_93 3 = wn ffresh 3 by omega)⟩ (x_B hP hD) dX11_readHead_134
          · skip
            have c_88 : ¬ ((u_72.1 2) = 0) := bo_0.mp c_88
            exact x_retv S hr hlk hQ hS ((fun i => ([(u_79.1 0), (u_79.1 1), (u_72.1 2), (u_72.1 3)] : List (Int32)).getD i 0), (fun i => ([u_79.2.1 0, u_79.2.1 1] : List (Nat)).getD i 0), (fun i => ([ffresh] : List (Nat → Int32)).getD i (fun _ => 0)), (fun i => ([] : List (Nat → Int64)).getD i (fun _ => 0)), (fun i => ([] : List (Int64)).getD i 0)) ⟨(show u_79.2.1 0 ≤ 600 by omega), (show u_79.2.1 1 ≤ 600 by omega), hkfresh, (show mfrom ≤ u_79.2.1 1 ∧ u_79.2.1 1 ≤ u_79.2.1 0 by omega), (fun hz => absurd hz c_88), (show wn ffresh 3 = wn ffresh 3 by omega)⟩ (x_B hP hD) dX11_readHead_96
        · skip
          have c_85 : isW (u_72.1 2) (u_72.1 0) (u_72.2.1 0) (u_72.2.1 1) ftape 6 := isB_1.mp c_85
          refine lv_aload_n hx hb dX11_readHead_76 rfl (lv_at hl 3 rfl) ?_
          refine lv_iconst (v := 1) hx hb dX11_readHead_77 (by decide) ?_
          refine lv_bipush (v := 16) hx hb dX11_readHead_78 (by decide) ?_
          refine x_muVi (wr := [((n 6), .inl (k 0, 99, .inl ffresh))]) (As := [.int 1, .int 16]) S hK hP hD hZ hS hA hl mwX11_number lkX11_176 (ctX11_number_n l D k z n mthrown mtaped msize (u_79.2.1 0) (u_79.2.1 1) (u_79.1 0) (u_79.1 1) (u_72.1 2) (u_72.1 3) mmoreMany mlawNow mwetSet moverAll mones mtwos mgone mroundNow msampleFor msampleAll maskWorst moftenAll moftenView moftenOnes ftape 1 16 (by omega) (by omega) (by omega) (by omega) (by omega) (by omega) (by omega) (by omega)) [0, 1] [2] rfl rfl (by decide) (by decide) (by decide) rfl rfl rfl rfl rfl ⟨Nat.le_of_ble_eq_true rfl, Nat.le_of_ble_eq_true rfl, Nat.le_of_ble_eq_true rfl⟩ dX11_readHead_80 ⟨Nat.le_of_ble_eq_true rfl, Nat.le_of_ble_eq_true rfl⟩ (fun r_95 u_96 H locs hr_95 hP hD hS => ?_)
          have hP : va_P D vwCl [((n 0), .inr (11, [.int mthrown, .ref (n 1), .ref (n 2), .ref (n 3), .ref (n 4), .int (nI mtaped), .ref (n 5), .int (nI msize), .int (nI (u_96.2.1 0)), .int (nI (u_96.2.1 1)), .int (u_96.1 0), .int (u_96.1 1), .int (u_96.1 2), .int (u_96.1 3), .ref (n 6), .ref (n 7), .ref (n 8), .ref (n 9), .ref (n 10), .ref (n 11), .ref (n 12), .int (nI mmoreMany), .int mlawNow, .int mwetSet, .int moverAll, .ref (n 13), .ref (n 14), .ref (n 15), .int mones, .int mtwos, .int mgone, .ref (n 16), .ref (n 17), .int mroundNow, .ref (n 18), .long msampleFor, .long msampleAll, .ref (n 19), .int maskWorst, .long moftenAll, .long moftenView, .long moftenOnes, .ref (n 20), .ref (n 21), .ref (n 22), .ref (n 23)])), ((n 4), .inl (k 1, 600, .inl ftape)), ((n 6), .inl (k 0, 99, .inl ffresh))] H := hP.sub [1, 2, 0] rfl
          have hD : va_D A [((n 0), .inr (11, [.int mthrown, .ref (n 1), .ref (n 2), .ref (n 3), .ref (n 4), .int (nI mtaped), .ref (n 5), .int (nI msize), .int (nI (u_96.2.1 0)), .int (nI (u_96.2.1 1)), .int (u_96.1 0), .int (u_96.1 1), .int (u_96.1 2), .int (u_96.1 3), .ref (n 6), .ref (n 7), .ref (n 8), .ref (n 9), .ref (n 10), .ref (n 11), .ref (n 12), .int (nI mmoreMany), .int mlawNow, .int mwetSet, .int moverAll, .ref (n 13), .ref (n 14), .ref (n 15), .int mones, .int mtwos, .int mgone, .ref (n 16), .ref (n 17), .int mroundNow, .ref (n 18), .long msampleFor, .long msampleAll, .ref (n 19), .int maskWorst, .long moftenAll, .long moftenView, .long moftenOnes, .ref (n 20), .ref (n 21), .ref (n 22), .ref (n 23)])), ((n 4), .inl (k 1, 600, .inl ftape)), ((n 6), .inl (k 0, 99, .inl ffresh))] := hD.sub [1, 2, 0] (by decide) rfl
          obtain ⟨⟨n_97, rfl, hn_97⟩, hg_98, hg_99, hg_100, hg_101⟩ := hr_95
          refine lv_goto (tgt := 87) hx hb dX11_readHead_83 (by decide) ?_
          refine lv_istore (lv' := [(4, .int (nI n_97)), (3, .int (nI n_73)), (2, .int (nI (13 + 2 * (wn ffresh 4)))), (1, .int (nI (9 + wn ffresh 3))), (0, .ref (n 0))]) hx hb dX11_readHead_87 hl (by decide) rfl (fun ls hl => ?_)
          refine lv_aload_n hx hb dX11_readHead_89 rfl (lv_at hl 4 rfl) ?_
          refine x_roVi (As := []) S hK hP hD hZ (fun _ h => h) hA hS hA hl mwX11_good lkX11_146 (ctX11_good l D k z n mthrown mtaped msize (u_96.2.1 0) (u_96.2.1 1) (u_96.1 0) (u_96.1 1) (u_96.1 2) (u_96.1 3) mmoreMany mlawNow mwetSet moverAll mones mtwos mgone mroundNow msampleFor msampleAll maskWorst moftenAll moftenView moftenOnes (by omega) (by omega) (by omega) (by omega) (by omega)) [0] rfl (by decide) rfl rfl rfl rfl rfl ⟨Nat.le_of_ble_eq_true rfl, Nat.le_of_ble_eq_true rfl, Nat.le_of_ble_eq_true rfl⟩ dX11_readHead_90 ⟨Nat.le_of_ble_eq_true rfl, Nat.le_of_ble_eq_true rfl⟩ (fun r_102 H locs hr_102 hP hS => ?_)
          obtain rfl := hr_102
          refine lv_if_ne (tgt := 97) hx hb dX11_readHead_93 (by decide) (fun c_104 => ?_) (fun c_104 => ?_)
          · skip
            have c_104 : (u_96.1 2) = 0 := bo_1.mp c_104
            have k_105 := hg_101 c_104
            have k_106 := hg_77 k_105.1
            refine lv_aload_n hx hb dX11_readHead_97 rfl (lv_at hl 4 rfl) ?_
            refine x_get S hK hP 0 rfl cfX11 14 lkX11_31 (by decide) rfl dX11_readHead_98 ?_
            refine lv_iload_n hx hb dX11_readHead_101 rfl (lv_at hl 2 rfl) ?_
            refine lv_iload_n hx hb dX11_readHead_102 rfl (lv_at hl 1 rfl) ?_
            refine x_iast (ws' := fun f_107 => [((n 0), .inr (11, [.int mthrown, .ref (n 1), .ref (n 2), .ref (n 3), .ref (n 4), .int (nI mtaped), .ref (n 5), .int (nI msize), .int (nI (u_96.2.1 0)), .int (nI (u_96.2.1 1)), .int (u_96.1 0), .int (u_96.1 1), .int (u_96.1 2), .int (u_96.1 3), .ref (n 6), .ref (n 7), .ref (n 8), .ref (n 9), .ref (n 10), .ref (n 11), .ref (n 12), .int (nI mmoreMany), .int mlawNow, .int mwetSet, .int moverAll, .ref (n 13), .ref (n 14), .ref (n 15), .int mones, .int mtwos, .int mgone, .ref (n 16), .ref (n 17), .int mroundNow, .ref (n 18), .long msampleFor, .long msampleAll, .ref (n 19), .int maskWorst, .long moftenAll, .long moftenView, .long moftenOnes, .ref (n 20), .ref (n 21), .ref (n 22), .ref (n 23)])), ((n 4), .inl (k 1, 600, .inl ftape)), ((n 6), .inl (k 0, 99, .inl f_107))]) S hK hP hD hS 2 rfl (vp_in_nI (by omega) (by decide)) (fun _ => rfl) dX11_readHead_103 (fun f_107 H locs ef_107 hP hD hS => ?_)
            obtain ⟨hif_107, hbf_107⟩ := okW_hi ef_107 hkfresh (a := 13 + 2 * (wn ffresh 4)) rfl (by omega) (by omega)
            refine lv_aload_n hx hb dX11_readHead_104 rfl (lv_at hl 4 rfl) ?_
            refine x_get S hK hP 0 rfl cfX11 14 lkX11_31 (by decide) rfl dX11_readHead_105 ?_
            refine lv_iload_n hx hb dX11_readHead_108 rfl (lv_at hl 2 rfl) ?_
            refine lv_iconst (v := 1) hx hb dX11_readHead_109 (by decide) ?_
            refine lv_iadd hx hb dX11_readHead_110 ?_
            refine x_is (nI (13 + 2 * (wn ffresh 4) + 1)) (ni_add rfl (by decide)) ?_
            refine lv_iload hx hb dX11_readHead_111 (lv_at hl 0 rfl) ?_
            refine x_iast (ws' := fun f_108 => [((n 0), .inr (11, [.int mthrown, .ref (n 1), .ref (n 2), .ref (n 3), .ref (n 4), .int (nI mtaped), .ref (n 5), .int (nI msize), .int (nI (u_96.2.1 0)), .int (nI (u_96.2.1 1)), .int (u_96.1 0), .int (u_96.1 1), .int (u_96.1 2), .int (u_96.1 3), .ref (n 6), .ref (n 7), .ref (n 8), .ref (n 9), .ref (n 10), .ref (n 11), .ref (n 12), .int (nI mmoreMany), .int mlawNow, .int mwetSet, .int moverAll, .ref (n 13), .ref (n 14), .ref (n 15), .int mones, .int mtwos, .int mgone, .ref (n 16), .ref (n 17), .int mroundNow, .ref (n 18), .long msampleFor, .long msampleAll, .ref (n 19), .int maskWorst, .long moftenAll, .long moftenView, .long moftenOnes, .ref (n 20), .ref (n 21), .ref (n 22), .ref (n 23)])), ((n 4), .inl (k 1, 600, .inl ftape)), ((n 6), .inl (k 0, 99, .inl f_108))]) S hK hP hD hS 2 rfl (vp_in_nI (by omega) (by decide)) (fun _ => rfl) dX11_readHead_113 (fun f_108 H locs ef_108 hP hD hS => ?_)
            obtain ⟨hif_108, hbf_108⟩ := okW_hi ef_108 hif_107 (a := 13 + 2 * (wn ffresh 4) + 1) rfl (by omega) (by omega)
            refine lv_aload_n hx hb dX11_readHead_114 rfl (lv_at hl 4 rfl) ?_
            refine x_get S hK hP 0 rfl cfX11 14 lkX11_31 (by decide) rfl dX11_readHead_115 ?_
            refine lv_iload_n hx hb dX11_readHead_118 rfl (lv_at hl 3 rfl) ?_
            refine lv_dup2_11 hx hb dX11_readHead_119 rfl rfl ?_
            refine x_iald S hK hP 2 rfl (vp_in_nI (by omega) (by decide)) dX11_readHead_120 ?_
            refine x_is (nI (wn f_108 (9 + wn ffresh 3))) ((cl_at (f := f_108) (a := 9 + wn ffresh 3) rfl (by omega)).trans (okW_at hif_108 (i := 9 + wn ffresh 3) (by omega))) ?_
            have hrw := okW_row hif_108 (j := wn ffresh 3) (by omega)
            refine lv_iconst (v := 1) hx hb dX11_readHead_121 (by decide) ?_
            refine lv_iadd hx hb dX11_readHead_122 ?_
            refine x_is (nI (wn f_108 (9 + wn ffresh 3) + 1)) (ni_add rfl (by decide)) ?_
            refine x_iast (ws' := fun f_109 => [((n 0), .inr (11, [.int mthrown, .ref (n 1), .ref (n 2), .ref (n 3), .ref (n 4), .int (nI mtaped), .ref (n 5), .int (nI msize), .int (nI (u_96.2.1 0)), .int (nI (u_96.2.1 1)), .int (u_96.1 0), .int (u_96.1 1), .int (u_96.1 2), .int (u_96.1 3), .ref (n 6), .ref (n 7), .ref (n 8), .ref (n 9), .ref (n 10), .ref (n 11), .ref (n 12), .int (nI mmoreMany), .int mlawNow, .int mwetSet, .int moverAll, .ref (n 13), .ref (n 14), .ref (n 15), .int mones, .int mtwos, .int mgone, .ref (n 16), .ref (n 17), .int mroundNow, .ref (n 18), .long msampleFor, .long msampleAll, .ref (n 19), .int maskWorst, .long moftenAll, .long moftenView, .long moftenOnes, .ref (n 20), .ref (n 21), .ref (n 22), .ref (n 23)])), ((n 4), .inl (k 1, 600, .inl ftape)), ((n 6), .inl (k 0, 99, .inl f_109))]) S hK hP hD hS 2 rfl (vp_in_nI (by omega) (by decide)) (fun _ => rfl) dX11_readHead_123 (fun f_109 H locs ef_109 hP hD hS => ?_)
            have e1f_109 := okW_e9 (j := wn ffresh 3) ef_109 rfl (by omega) (q := wn f_108 (9 + wn ffresh 3) + 1) rfl
            refine lv_aload_n hx hb dX11_readHead_124 rfl (lv_at hl 4 rfl) ?_
            refine x_get S hK hP 0 rfl cfX11 14 lkX11_31 (by decide) rfl dX11_readHead_125 ?_
            refine lv_iconst (v := 4) hx hb dX11_readHead_128 (by decide) ?_
            refine lv_dup2_11 hx hb dX11_readHead_129 rfl rfl ?_
            refine x_iald S hK hP 2 rfl (vp_lit (by decide)) dX11_readHead_130 ?_
            refine x_is (nI (wn f_108 4)) ((cl_at (f := f_109) (a := 4) (by decide) (by omega)).trans (okW_p4 e1f_109 hif_108 (by omega))) ?_
            refine lv_iconst (v := 1) hx hb dX11_readHead_131 (by decide) ?_
            refine lv_iadd hx hb dX11_readHead_132 ?_
            refine x_is (nI (wn f_108 4 + 1)) (ni_add rfl (by decide)) ?_
            refine x_iast (ws' := fun f_110 => [((n 0), .inr (11, [.int mthrown, .ref (n 1), .ref (n 2), .ref (n 3), .ref (n 4), .int (nI mtaped), .ref (n 5), .int (nI msize), .int (nI (u_96.2.1 0)), .int (nI (u_96.2.1 1)), .int (u_96.1 0), .int (u_96.1 1), .int (u_96.1 2), .int (u_96.1 3), .ref (n 6), .ref (n 7), .ref (n 8), .ref (n 9), .ref (n 10), .ref (n 11), .ref (n 12), .int (nI mmoreMany), .int mlawNow, .int mwetSet, .int moverAll, .ref (n 13), .ref (n 14), .ref (n 15), .int mones, .int mtwos, .int mgone, .ref (n 16), .ref (n 17), .int mroundNow, .ref (n 18), .long msampleFor, .long msampleAll, .ref (n 19), .int maskWorst, .long moftenAll, .long moftenView, .long moftenOnes, .ref (n 20), .ref (n 21), .ref (n 22), .ref (n 23)])), ((n 4), .inl (k 1, 600, .inl ftape)), ((n 6), .inl (k 0, 99, .inl f_110))]) S hK hP hD hS 2 rfl (vp_lit (by decide)) (fun _ => rfl) dX11_readHead_133 (fun f_110 H locs ef_110 hP hD hS => ?_)
            obtain ⟨hif_110, hbf_110⟩ := okW_head hif_108 e1f_109 ef_110 (by decide) rfl (by omega) (by omega)
            exact x_retv S hr hlk hQ hS ((fun i => ([(u_96.1 0), (u_96.1 1), (u_96.1 2), (u_96.1 3)] : List (Int32)).getD i 0), (fun i => ([u_96.2.1 0, u_96.2.1 1] : List (Nat)).getD i 0), (fun i => ([f_110] : List (Nat → Int32)).getD i (fun _ => 0)), (fun i => ([] : List (Nat → Int64)).getD i (fun _ => 0)), (fun i => ([] : List (Int64)).getD i 0)) ⟨(show u_96.2.1 0 ≤ 600 by omega), (show u_96.2.1 1 ≤ 600 by omega), hif_110, (show mfrom ≤ u_96.2.1 1 ∧ u_96.2.1 1 ≤ u_96.2.1 0 by omega), (fun hz => (show mfaultKind = 0 ∧ mfrom < u_96.2.1 1 by have k_111 := hg_101 hz; have k_112 := hg_77 k_111.1; exact ⟨k_112.1, by omega⟩)), (show wn f_110 3 = wn ffresh 3 by omega)⟩ (x_B hP hD) dX11_readHead_134
          · skip
            have c_104 : ¬ ((u_96.1 2) = 0) := bo_0.mp c_104
            exact x_retv S hr hlk hQ hS ((fun i => ([(u_96.1 0), (u_96.1 1), (u_96.1 2), (u_96.1 3)] : List (Int32)).getD i 0), (fun i => ([u_96.2.1 0, u_96.2.1 1] : List (Nat)).getD i 0), (fun i => ([ffresh] : List (Nat → Int32)).getD i (fun _ => 0)), (fun i => ([] : List (Nat → Int64)).getD i (fun _ => 0)), (fun i => ([] : List (Int64)).getD i 0)) ⟨(show u_96.2.1 0 ≤ 600 by omega), (show u_96.2.1 1 ≤ 600 by omega), hkfresh, (show mfrom ≤ u_96.2.1 1 ∧ u_96.2.1 1 ≤ u_96.2.1 0 by omega), (fun hz => absurd hz c_104), (show wn ffresh 3 = wn ffresh 3 by omega)⟩ (x_B hP hD) dX11_readHead_96
      · skip
        have c_70 : wn ffresh 4 = 12 := (ni_eq rfl (by decide) (by omega) (by omega)).mp c_70
        refine lv_aload_n hx hb dX11_readHead_41 rfl (lv_at hl 1 rfl) ?_
        refine lv_iconst (v := 3) hx hb dX11_readHead_42 (by decide) ?_
        refine x_muVv (wr := [((n 4), .inl (k 1, 600, .inl ftape)), ((n 6), .inl (k 0, 99, .inl ffresh))]) (As := [.int 3]) S hK hP hD hZ hS hA hl mwX11_errs lkX11_168 (ctX11_errs l D k z n mthrown mtaped msize mat mfrom mtoken mvalue mfaultKind mfaultPlace mmoreMany mlawNow mwetSet moverAll mones mtwos mgone mroundNow msampleFor msampleAll maskWorst moftenAll moftenView moftenOnes 3 (by omega) (by omega) (by omega) (by omega) (by omega) (by omega) (by omega)) [0] [1, 2] rfl rfl (by decide) (by decide) (by decide) rfl rfl rfl rfl rfl ⟨Nat.le_of_ble_eq_true rfl, Nat.le_of_ble_eq_true rfl, Nat.le_of_ble_eq_true rfl⟩ dX11_readHead_43 ⟨Nat.le_of_ble_eq_true rfl, Nat.le_of_ble_eq_true rfl⟩ (fun u_114 H locs hr_113 hP hD hS => ?_)
        have hP : va_P D vwCl [((n 0), .inr (11, [.int mthrown, .ref (n 1), .ref (n 2), .ref (n 3), .ref (n 4), .int (nI mtaped), .ref (n 5), .int (nI msize), .int (nI mat), .int (nI mfrom), .int mtoken, .int mvalue, .int (u_114.1 0), .int (u_114.1 1), .ref (n 6), .ref (n 7), .ref (n 8), .ref (n 9), .ref (n 10), .ref (n 11), .ref (n 12), .int (nI mmoreMany), .int mlawNow, .int mwetSet, .int moverAll, .ref (n 13), .ref (n 14), .ref (n 15), .int mones, .int mtwos, .int mgone, .ref (n 16), .ref (n 17), .int mroundNow, .ref (n 18), .long msampleFor, .long msampleAll, .ref (n 19), .int maskWorst, .long moftenAll, .long moftenView, .long moftenOnes, .ref (n 20), .ref (n 21), .ref (n 22), .ref (n 23)])), ((n 4), .inl (k 1, 600, .inl ftape)), ((n 6), .inl (k 0, 99, .inl ffresh))] H := hP.sub [2, 0, 1] rfl
        have hD : va_D A [((n 0), .inr (11, [.int mthrown, .ref (n 1), .ref (n 2), .ref (n 3), .ref (n 4), .int (nI mtaped), .ref (n 5), .int (nI msize), .int (nI mat), .int (nI mfrom), .int mtoken, .int mvalue, .int (u_114.1 0), .int (u_114.1 1), .ref (n 6), .ref (n 7), .ref (n 8), .ref (n 9), .ref (n 10), .ref (n 11), .ref (n 12), .int (nI mmoreMany), .int mlawNow, .int mwetSet, .int moverAll, .ref (n 13), .ref (n 14), .ref (n 15), .int mones, .int mtwos, .int mgone, .ref (n 16), .ref (n 17), .int mroundNow, .ref (n 18), .long msampleFor, .long msampleAll, .ref (n 19), .int maskWorst, .long moftenAll, .long moftenView, .long moftenOnes, .ref (n 20), .ref (n 21), .ref (n 22), .ref (n 23)])), ((n 4), .inl (k 1, 600, .inl ftape)), ((n 6), .inl (k 0, 99, .inl ffresh))] := hD.sub [2, 0, 1] (by decide) rfl
        have hg_115 := hr_113
        refine lv_bipush (v := 13) hx hb dX11_readHead_46 (by decide) ?_
        refine lv_iconst (v := 2) hx hb dX11_readHead_48 (by decide) ?_
        refine lv_aload_n hx hb dX11_readHead_49 rfl (lv_at hl 1 rfl) ?_
        refine x_get S hK hP 0 rfl cfX11 14 lkX11_31 (by decide) rfl dX11_readHead_50 ?_
        refine lv_iconst (v := 4) hx hb dX11_readHead_53 (by decide) ?_
        refine x_iald S hK hP 2 rfl (vp_lit (by decide)) dX11_readHead_54 ?_
        refine x_is (nI (wn ffresh 4)) ((cl_at (f := ffresh) (a := 4) (by decide) (by omega)).trans (okW_at hkfresh (i := 4) (by omega))) ?_
        refine lv_imul hx hb dX11_readHead_55 ?_
        refine x_is (nI (2 * (wn ffresh 4))) (ni_mul (by decide) rfl) ?_
        refine lv_iadd hx hb dX11_readHead_56 ?_
        refine x_is (nI (13 + 2 * (wn ffresh 4))) (ni_add (by decide) rfl) ?_
        refine lv_istore_n (lv' := [(2, .int (nI (13 + 2 * (wn ffresh 4)))), (1, .int (nI (9 + wn ffresh 3))), (0, .ref (n 0))]) hx hb dX11_readHead_57 rfl hl (by decide) rfl (fun ls hl => ?_)
        refine lv_aload_n hx hb dX11_readHead_58 rfl (lv_at hl 2 rfl) ?_
        refine x_ldcS S hZ lsX11_190 dX11_readHead_59 ?_
        refine lv_iconst (v := 1) hx hb dX11_readHead_61 (by decide) ?_
        refine lv_iconst (v := 4) hx hb dX11_readHead_62 (by decide) ?_
        refine x_muVi (wr := [((n 6), .inl (k 0, 99, .inl ffresh))]) (As := [.ref (z 5), .int 1, .int 4]) S hK hP hD hZ hS hA hl mwX11_told lkX11_182 (ctX11_told_n l D k z n mthrown mtaped msize mat mfrom mtoken mvalue (u_114.1 0) (u_114.1 1) mmoreMany mlawNow mwetSet moverAll mones mtwos mgone mroundNow msampleFor msampleAll maskWorst moftenAll moftenView moftenOnes ftape 5 1 4 (by omega) (by omega) (by omega) (by omega) (by omega) (by omega) (by omega) (by omega) (by omega)) [0, 1] [2] rfl rfl (by decide) (by decide) (by decide) rfl rfl rfl rfl rfl ⟨Nat.le_of_ble_eq_true rfl, Nat.le_of_ble_eq_true rfl, Nat.le_of_ble_eq_true rfl⟩ dX11_readHead_63 ⟨Nat.le_of_ble_eq_true rfl, Nat.le_of_ble_eq_true rfl⟩ (fun r_116 u_117 H locs hr_116 hP hD hS => ?_)
        have hP : va_P D vwCl [((n 0), .inr (11, [.int mthrown, .ref (n 1), .ref (n 2), .ref (n 3), .ref (n 4), .int (nI mtaped), .ref (n 5), .int (nI msize), .int (nI (u_117.2.1 0)), .int (nI (u_117.2.1 1)), .int (u_117.1 0), .int (u_117.1 1), .int (u_117.1 2), .int (u_117.1 3), .ref (n 6), .ref (n 7), .ref (n 8), .ref (n 9), .ref (n 10), .ref (n 11), .ref (n 12), .int (nI mmoreMany), .int mlawNow, .int mwetSet, .int moverAll, .ref (n 13), .ref (n 14), .ref (n 15), .int mones, .int mtwos, .int mgone, .ref (n 16), .ref (n 17), .int mroundNow, .ref (n 18), .long msampleFor, .long msampleAll, .ref (n 19), .int maskWorst, .long moftenAll, .long moftenView, .long moftenOnes, .ref (n 20), .ref (n 21), .ref (n 22), .ref (n 23)])), ((n 4), .inl (k 1, 600, .inl ftape)), ((n 6), .inl (k 0, 99, .inl ffresh))] H := hP.sub [1, 2, 0] rfl
        have hD : va_D A [((n 0), .inr (11, [.int mthrown, .ref (n 1), .ref (n 2), .ref (n 3), .ref (n 4), .int (nI mtaped), .ref (n 5), .int (nI msize), .int (nI (u_117.2.1 0)), .int (nI (u_117.2.1 1)), .int (u_117.1 0), .int (u_117.1 1), .int (u_117.1 2), .int (u_117.1 3), .ref (n 6), .ref (n 7), .ref (n 8), .ref (n 9), .ref (n 10), .ref (n 11), .ref (n 12), .int (nI mmoreMany), .int mlawNow, .int mwetSet, .int moverAll, .ref (n 13), .ref (n 14), .ref (n 15), .int mones, .int mtwos, .int mgone, .ref (n 16), .ref (n 17), .int mroundNow, .ref (n 18), .long msampleFor, .long msampleAll, .ref (n 19), .int maskWorst, .long moftenAll, .long moftenView, .long moftenOnes, .ref (n 20), .ref (n 21), .ref (n 22), .ref (n 23)])), ((n 4), .inl (k 1, 600, .inl ftape)), ((n 6), .inl (k 0, 99, .inl ffresh))] := hD.sub [1, 2, 0] (by decide) rfl
        obtain ⟨⟨n_118, rfl, hn_118⟩, hg_119, hg_120, hg_121, hg_122⟩ := hr_116
        refine lv_istore_n (lv' := [(3, .int (nI n_118)), (2, .int (nI (13 + 2 * (wn ffresh 4)))), (1, .int (nI (9 + wn ffresh 3))), (0, .ref (n 0))]) hx hb dX11_readHead_66 rfl hl (by decide) rfl (fun ls hl => ?_)
        refine lv_aload_n hx hb dX11_readHead_67 rfl (lv_at hl 3 rfl) ?_
        refine x_ldcS S hZ lsX11_192 dX11_readHead_68 ?_
        refine x_muVi (wr := [((n 6), .inl (k 0, 99, .inl ffresh))]) (As := [.ref (z 6)]) S hK hP hD hZ hS hA hl mwX11_takes lkX11_165 (ctX11_takes l D k z n mthrown mtaped msize (u_117.2.1 0) (u_117.2.1 1) (u_117.1 0) (u_117.1 1) (u_117.1 2) (u_117.1 3) mmoreMany mlawNow mwetSet moverAll mones mtwos mgone mroundNow msampleFor msampleAll maskWorst moftenAll moftenView moftenOnes ftape 6 (by omega) (by omega) (by omega) (by omega) (by omega) (by omega) (by omega)) [0, 1] [2] rfl rfl (by decide) (by decide) (by decide) rfl rfl rfl rfl rfl ⟨Nat.le_of_ble_eq_true rfl, Nat.le_of_ble_eq_true rfl, Nat.le_of_ble_eq_true rfl⟩ dX11_readHead_70 ⟨Nat.le_of_ble_eq_true rfl, Nat.le_of_ble_eq_true rfl⟩ (fun r_123 u_124 H locs hr_123 hP hD hS => ?_)
        have hP : va_P D vwCl [((n 0), .inr (11, [.int mthrown, .ref (n 1), .ref (n 2), .ref (n 3), .ref (n 4), .int (nI mtaped), .ref (n 5), .int (nI msize), .int (nI (u_124.2.1 0)), .int (nI (u_124.2.1 1)), .int (u_124.1 0), .int (u_124.1 1), .int (u_117.1 2), .int (u_117.1 3), .ref (n 6), .ref (n 7), .ref (n 8), .ref (n 9), .ref (n 10), .ref (n 11), .ref (n 12), .int (nI mmoreMany), .int mlawNow, .int mwetSet, .int moverAll, .ref (n 13), .ref (n 14), .ref (n 15), .int mones, .int mtwos, .int mgone, .ref (n 16), .ref (n 17), .int mroundNow, .ref (n 18), .long msampleFor, .long msampleAll, .ref (n 19), .int maskWorst, .long moftenAll, .long moftenView, .long moftenOnes, .ref (n 20), .ref (n 21), .ref (n 22), .ref (n 23)])), ((n 4), .inl (k 1, 600, .inl ftape)), ((n 6), .inl (k 0, 99, .inl ffresh))] H := hP.sub [1, 2, 0] rfl
        have hD : va_D A [((n 0), .inr (11, [.int mthrown, .ref (n 1), .ref (n 2), .ref (n 3), .ref (n 4), .int (nI mtaped), .ref (n 5), .int (nI msize), .int (nI (u_124.2.1 0)), .int (nI (u_124.2.1 1)), .int (u_124.1 0), .int (u_124.1 1), .int (u_117.1 2), .int (u_117.1 3), .ref (n 6), .ref (n 7), .ref (n 8), .ref (n 9), .ref (n 10), .ref (n 11), .ref (n 12), .int (nI mmoreMany), .int mlawNow, .int mwetSet, .int moverAll, .ref (n 13), .ref (n 14), .ref (n 15), .int mones, .int mtwos, .int mgone, .ref (n 16), .ref (n 17), .int mroundNow, .ref (n 18), .long msampleFor, .long msampleAll, .ref (n 19), .int maskWorst, .long moftenAll, .long moftenView, .long moftenOnes, .ref (n 20), .ref (n 21), .ref (n 22), .ref (n 23)])), ((n 4), .inl (k 1, 600, .inl ftape)), ((n 6), .inl (k 0, 99, .inl ffresh))] := hD.sub [1, 2, 0] (by decide) rfl
        obtain ⟨rfl, hg_125, hg_126, hg_127, hg_128, hg_129⟩ := hr_123
        refine lv_if_eq (tgt := 86) hx hb dX11_readHead_73 (by decide) (fun c_130 => ?_) (fun c_130 => ?_)
        · skip
          have c_130 : ¬ (isW (u_117.1 2) (u_117.1 0) (u_117.2.1 0) (u_117.2.1 1) ftape 6) := isB_0.mp c_130
          refine lv_iconst (v := 0) hx hb dX11_readHead_86 (by decide) ?_
          refine lv_istore (lv' := [(4, .int 0), (3, .int (nI n_118)), (2, .int (nI (13 + 2 * (wn ffresh 4)))), (1, .int (nI (9 + wn ffresh 3))), (0, .ref (n 0))]) hx hb dX11_readHead_87 hl (by decide) rfl (fun ls hl => ?_)
          refine lv_aload_n hx hb dX11_readHead_89 rfl (lv_at hl 4 rfl) ?_
          refine x_roVi (As := []) S hK hP hD hZ (fun _ h => h) hA hS hA hl mwX11_good lkX11_146 (ctX11_good l D k z n mthrown mtaped msize (u_124.2.1 0) (u_124.2.1 1) (u_124.1 0) (u_124.1 1) (u_117.1 2) (u_117.1 3) mmoreMany mlawNow mwetSet moverAll mones mtwos mgone mroundNow msampleFor msampleAll maskWorst moftenAll moftenView moftenOnes (by omega) (by omega) (by omega) (by omega) (by omega)) [0] rfl (by decide) rfl rfl rfl rfl rfl ⟨Nat.le_of_ble_eq_true rfl, Nat.le_of_ble_eq_true rfl, Nat.le_of_ble_eq_true rfl⟩ dX11_readHead_90 ⟨Nat.le_of_ble_eq_true rfl, Nat.le_of_ble_eq_true rfl⟩ (fun r_131 H locs hr_131 hP hS => ?_)
          obtain rfl := hr_131
          refine lv_if_ne (tgt := 97) hx hb dX11_readHead_93 (by decide) (fun c_133 => ?_) (fun c_133 => ?_)
          · skip
            have c_133 : (u_117.1 2) = 0 := bo_1.mp c_133
            have k_134 := hg_122 c_133
            exact absurd k_134.1 hg_115
          · skip
            have c_133 : ¬ ((u_117.1 2) = 0) := bo_0.mp c_133
            exact x_retv S hr hlk hQ hS ((fun i => ([(u_124.1 0), (u_124.1 1), (u_117.1 2), (u_117.1 3)] : List (Int32)).getD i 0), (fun i => ([u_124.2.1 0, u_124.2.1 1] : List (Nat)).getD i 0), (fun i => ([ffresh] : List (Nat → Int32)).getD i (fun _ => 0)), (fun i => ([] : List (Nat → Int64)).getD i (fun _ => 0)), (fun i => ([] : List (Int64)).getD i 0)) ⟨(show u_124.2.1 0 ≤ 600 by omega), (show u_124.2.1 1 ≤ 600 by omega), hkfresh, (show mfrom ≤ u_124.2.1 1 ∧ u_124.2.1 1 ≤ u_124.2.1 0 by omega), (fun hz => absurd hz c_133), (show wn ffresh 3 = wn ffresh 3 by omega)⟩ (x_B hP hD) dX11_readHead_96
        · skip
          have c_130 : isW (u_117.1 2) (u_117.1 0) (u_117.2.1 0) (u_117.2.1 1) ftape 6 := isB_1.mp c_130
          refine lv_aload_n hx hb dX11_readHead_76 rfl (lv_at hl 3 rfl) ?_
          refine lv_iconst (v := 1) hx hb dX11_readHead_77 (by decide) ?_
          refine lv_bipush (v := 16) hx hb dX11_readHead_78 (by decide) ?_
          refine x_muVi (wr := [((n 6), .inl (k 0, 99, .inl ffresh))]) (As := [.int 1, .int 16]) S hK hP hD hZ hS hA hl mwX11_number lkX11_176 (ctX11_number_n l D k z n mthrown mtaped msize (u_124.2.1 0) (u_124.2.1 1) (u_124.1 0) (u_124.1 1) (u_117.1 2) (u_117.1 3) mmoreMany mlawNow mwetSet moverAll mones mtwos mgone mroundNow msampleFor msampleAll maskWorst moftenAll moftenView moftenOnes ftape 1 16 (by omega) (by omega) (by omega) (by omega) (by omega) (by omega) (by omega) (by omega)) [0, 1] [2] rfl rfl (by decide) (by decide) (by decide) rfl rfl rfl rfl rfl ⟨Nat.le_of_ble_eq_true rfl, Nat.le_of_ble_eq_true rfl, Nat.le_of_ble_eq_true rfl⟩ dX11_readHead_80 ⟨Nat.le_of_ble_eq_true rfl, Nat.le_of_ble_eq_true rfl⟩ (fun r_135 u_136 H locs hr_135 hP hD hS => ?_)
          have hP : va_P D vwCl [((n 0), .inr (11, [.int mthrown, .ref (n 1), .ref (n 2), .ref (n 3), .ref (n 4), .int (nI mtaped), .ref (n 5), .int (nI msize), .int (nI (u_136.2.1 0)), .int (nI (u_136.2.1 1)), .int (u_136.1 0), .int (u_136.1 1), .int (u_136.1 2), .int (u_136.1 3), .ref (n 6), .ref (n 7), .ref (n 8), .ref (n 9), .ref (n 10), .ref (n 11), .ref (n 12), .int (nI mmoreMany), .int mlawNow, .int mwetSet, .int moverAll, .ref (n 13), .ref (n 14), .ref (n 15), .int mones, .int mtwos, .int mgone, .ref (n 16), .ref (n 17), .int mroundNow, .ref (n 18), .long msampleFor, .long msampleAll, .ref (n 19), .int maskWorst, .long moftenAll, .long moftenView, .long moftenOnes, .ref (n 20), .ref (n 21), .ref (n 22), .ref (n 23)])), ((n 4), .inl (k 1, 600, .inl ftape)), ((n 6), .inl (k 0, 99, .inl ffresh))] H := hP.sub [1, 2, 0] rfl
          have hD : va_D A [((n 0), .inr (11, [.int mthrown, .ref (n 1), .ref (n 2), .ref (n 3), .ref (n 4), .int (nI mtaped), .ref (n 5), .int (nI msize), .int (nI (u_136.2.1 0)), .int (nI (u_136.2.1 1)), .int (u_136.1 0), .int (u_136.1 1), .int (u_136.1 2), .int (u_136.1 3), .ref (n 6), .ref (n 7), .ref (n 8), .ref (n 9), .ref (n 10), .ref (n 11), .ref (n 12), .int (nI mmoreMany), .int mlawNow, .int mwetSet, .int moverAll, .ref (n 13), .ref (n 14), .ref (n 15), .int mones, .int mtwos, .int mgone, .ref (n 16), .ref (n 17), .int mroundNow, .ref (n 18), .long msampleFor, .long msampleAll, .ref (n 19), .int maskWorst, .long moftenAll, .long moftenView, .long moftenOnes, .ref (n 20), .ref (n 21), .ref (n 22), .ref (n 23)])), ((n 4), .inl (k 1, 600, .inl ftape)), ((n 6), .inl (k 0, 99, .inl ffresh))] := hD.sub [1, 2, 0] (by decide) rfl
          obtain ⟨⟨n_137, rfl, hn_137⟩, hg_138, hg_139, hg_140, hg_141⟩ := hr_135
          refine lv_goto (tgt := 87) hx hb dX11_readHead_83 (by decide) ?_
          refine lv_istore (lv' := [(4, .int (nI n_137)), (3, .int (nI n_118)), (2, .int (nI (13 + 2 * (wn ffresh 4)))), (1, .int (nI (9 + wn ffresh 3))), (0, .ref (n 0))]) hx hb dX11_readHead_87 hl (by decide) rfl (fun ls hl => ?_)
          refine lv_aload_n hx hb dX11_readHead_89 rfl (lv_at hl 4 rfl) ?_
          refine x_roVi (As := []) S hK hP hD hZ (fun _ h => h) hA hS hA hl mwX11_good lkX11_146 (ctX11_good l D k z n mthrown mtaped msize (u_136.2.1 0) (u_136.2.1 1) (u_136.1 0) (u_136.1 1) (u_136.1 2) (u_136.1 3) mmoreMany mlawNow mwetSet moverAll mones mtwos mgone mroundNow msampleFor msampleAll maskWorst moftenAll moftenView moftenOnes (by omega) (by omega) (by omega) (by omega) (by omega)) [0] rfl (by decide) rfl rfl rfl rfl rfl ⟨Nat.le_of_ble_eq_true rfl, Nat.le_of_ble_eq_true rfl, Nat.le_of_ble_eq_true rfl⟩ dX11_readHead_90 ⟨Nat.le_of_ble_eq_true rfl, Nat.le_of_ble_eq_true rfl⟩ (fun r_142 H locs hr_142 hP hS => ?_)
          obtain rfl := hr_142
          refine lv_if_ne (tgt := 97) hx hb dX11_readHead_93 (by decide) (fun c_144 => ?_) (fun c_144 => ?_)
          · skip
            have c_144 : (u_136.1 2) = 0 := bo_1.mp c_144
            have k_145 := hg_141 c_144
            have k_146 := hg_122 k_145.1
            exact absurd k_146.1 hg_115
          · skip
            have c_144 : ¬ ((u_136.1 2) = 0) := bo_0.mp c_144
            exact x_retv S hr hlk hQ hS ((fun i => ([(u_136.1 0), (u_136.1 1), (u_136.1 2), (u_136.1 3)] : List (Int32)).getD i 0), (fun i => ([u_136.2.1 0, u_136.2.1 1] : List (Nat)).getD i 0), (fun i => ([ffresh] : List (Nat → Int32)).getD i (fun _ => 0)), (fun i => ([] : List (Nat → Int64)).getD i (fun _ => 0)), (fun i => ([] : List (Int64)).getD i 0)) ⟨(show u_136.2.1 0 ≤ 600 by omega), (show u_136.2.1 1 ≤ 600 by omega), hkfresh, (show mfrom ≤ u_136.2.1 1 ∧ u_136.2.1 1 ≤ u_136.2.1 0 by omega), (fun hz => absurd hz c_144), (show wn ffresh 3 = wn ffresh 3 by omega)⟩ (x_B hP hD) dX11_readHead_96

set_option maxHeartbeats 4000000 in
set_option maxRecDepth 100000 in
theorem ctX11_readRow (l : Launch) (D : va_G) (k : Nat → ClassId) (z : Nat → Nat) (n : Nat → Nat) (mthrown : Int32) (mtaped : Nat) (msize : Nat) (mat : Nat) (mfrom : Nat) (mtoken : Int32) (mvalue : Int32) (mfaultKind : Int32) (mfaultPlace : Int32) (mmoreMany : Nat) (mlawNow : Int32) (mwetSet : Int32) (moverAll : Int32) (mones : Int32) (mtwos : Int32) (mgone : Int32) (mroundNow : Int32) (msampleFor : Int64) (msampleAll : Int64) (maskWorst : Int32) (moftenAll : Int64) (moftenView : Int64) (moftenOnes : Int64) (ftape : Nat → Int32) (ffresh : Nat → Int32) (hmtaped : mtaped ≤ 600) (hmsize : msize ≤ 600) (hmat : mat ≤ 600) (hmfrom : mfrom ≤ 600) (hmmoreMany : mmoreMany ≤ 14) (hkfresh : okW ffresh) (hfa : mfrom ≤ mat) (h34 : wn ffresh 3 < 4) : MU l yX11_readRow cX11_readRow 1 none 9 D k z [.ref (n 0)] [((n 0), .inr (11, [.int mthrown, .ref (n 1), .ref (n 2), .ref (n 3), .ref (n 4), .int (nI mtaped), .ref (n 5), .int (nI msize), .int (nI mat), .int (nI mfrom), .int mtoken, .int mvalue, .int mfaultKind, .int mfaultPlace, .ref (n 6), .ref (n 7), .ref (n 8), .ref (n 9), .ref (n 10), .ref (n 11), .ref (n 12), .int (nI mmoreMany), .int mlawNow, .int mwetSet, .int moverAll, .ref (n 13), .ref (n 14), .ref (n 15), .int mones, .int mtwos, .int mgone, .ref (n 16), .ref (n 17), .int mroundNow, .ref (n 18), .long msampleFor, .long msampleAll, .ref (n 19), .int maskWorst, .long moftenAll, .long moftenView, .long moftenOnes, .ref (n 20), .ref (n 21), .ref (n 22), .ref (n 23)])), ((n 4), .inl (k 1, 600, .inl ftape)), ((n 6), .inl (k 0, 99, .inl ffresh))] 0 0 (Uv D (fun u : (Nat → Int32) × (Nat → Nat) × (Nat → Nat → Int32) × (Nat → Nat → Int64) × (Nat → Int64) => (u.2.1 0 ≤ 600) ∧ (u.2.1 1 ≤ 600) ∧ (okW (u.2.2.1 0)) ∧ (mfrom ≤ (u.2.1 1) ∧ (u.2.1 1) ≤ (u.2.1 0)) ∧ ((u.1 2) = 0 → mfaultKind = 0 ∧ mfrom < (u.2.1 1))) (fun u : (Nat → Int32) × (Nat → Nat) × (Nat → Nat → Int32) × (Nat → Nat → Int64) × (Nat → Int64) => [((n 0), .inr (11, [.int mthrown, .ref (n 1), .ref (n 2), .ref (n 3), .ref (n 4), .int (nI mtaped), .ref (n 5), .int (nI msize), .int (nI (u.2.1 0)), .int (nI (u.2.1 1)), .int (u.1 0), .int (u.1 1), .int (u.1 2), .int (u.1 3), .ref (n 6), .ref (n 7), .ref (n 8), .ref (n 9), .ref (n 10), .ref (n 11), .ref (n 12), .int (nI mmoreMany), .int mlawNow, .int mwetSet, .int moverAll, .ref (n 13), .ref (n 14), .ref (n 15), .int mones, .int mtwos, .int mgone, .ref (n 16), .ref (n 17), .int mroundNow, .ref (n 18), .long msampleFor, .long msampleAll, .ref (n 19), .int maskWorst, .long moftenAll, .long moftenView, .long moftenOnes, .ref (n 20), .ref (n 21), .ref (n 22), .ref (n 23)])), ((n 4), .inl (k 1, 600, .inl ftape)), ((n 6), .inl (k 0, 99, .inl (u.2.2.1 0)))])) := by
  refine MU.of (by decide) (Nat.le_of_ble_eq_true rfl) ?_
  intro p e s m below meth c ls A args Q S hr hlk hnm hQ hK hP hD hZ hA hS hl
  have hx := S.1
  have hb := S.2.1
  have hl : lv_has ls 1 [(0, .ref (n 0))] := hl
  have hbffresh := okW_bd hkfresh
  refine lv_aload_n hx hb dX11_readRow_0 rfl (lv_at hl 0 rfl) ?_
  refine x_muVv (wr := []) (As := []) S hK hP hD hZ hS hA hl mwX11_readHead lkX11_194 (ctX11_readHead l D k z n mthrown mtaped msize mat mfrom mtoken mvalue mfaultKind mfaultPlace mmoreMany mlawNow mwetSet moverAll mones mtwos mgone mroundNow msampleFor msampleAll maskWorst moftenAll moftenView moftenOnes ftape ffresh (by omega) (by omega) (by omega) (by omega) (by omega) (hkfresh) (by omega) (by omega)) [0, 1, 2] [] rfl rfl (by decide) (by decide) (by decide) rfl rfl rfl rfl rfl ⟨Nat.le_of_ble_eq_true rfl, Nat.le_of_ble_eq_true rfl, Nat.le_of_ble_eq_true rfl⟩ dX11_readRow_1 ⟨Nat.le_of_ble_eq_true rfl, Nat.le_of_ble_eq_true rfl⟩ (fun u_2 H locs hr_1 hP hD hS => ?_)
  have hP : va_P D vwCl [((n 0), .inr (11, [.int mthrown, .ref (n 1), .ref (n 2), .ref (n 3), .ref (n 4), .int (nI mtaped), .ref (n 5), .int (nI msize), .int (nI (u_2.2.1 0)), .int (nI (u_2.2.1 1)), .int (u_2.1 0), .int (u_2.1 1), .int (u_2.1 2), .int (u_2.1 3), .ref (n 6), .ref (n 7), .ref (n 8), .ref (n 9), .ref (n 10), .ref (n 11), .ref (n 12), .int (nI mmoreMany), .int mlawNow, .int mwetSet, .int moverAll, .ref (n 13), .ref (n 14), .ref (n 15), .int mones, .int mtwos, .int mgone, .ref (n 16), .ref (n 17), .int mroundNow, .ref (n 18), .long msampleFor, .long msampleAll, .ref (n 19), .int maskWorst, .long moftenAll, .long moftenView, .long moftenOnes, .ref (n 20), .ref (n 21), .ref (n 22), .ref (n 23)])), ((n 4), .inl (k 1, 600, .inl ftape)), ((n 6), .inl (k 0, 99, .inl (u_2.2.2.1 0)))] H := hP.sub [0, 1, 2] rfl
  have hD : va_D A [((n 0), .inr (11, [.int mthrown, .ref (n 1), .ref (n 2), .ref (n 3), .ref (n 4), .int (nI mtaped), .ref (n 5), .int (nI msize), .int (nI (u_2.2.1 0)), .int (nI (u_2.2.1 1)), .int (u_2.1 0), .int (u_2.1 1), .int (u_2.1 2), .int (u_2.1 3), .ref (n 6), .ref (n 7), .ref (n 8), .ref (n 9), .ref (n 10), .ref (n 11), .ref (n 12), .int (nI mmoreMany), .int mlawNow, .int mwetSet, .int moverAll, .ref (n 13), .ref (n 14), .ref (n 15), .int mones, .int mtwos, .int mgone, .ref (n 16), .ref (n 17), .int mroundNow, .ref (n 18), .long msampleFor, .long msampleAll, .ref (n 19), .int maskWorst, .long moftenAll, .long moftenView, .long moftenOnes, .ref (n 20), .ref (n 21), .ref (n 22), .ref (n 23)])), ((n 4), .inl (k 1, 600, .inl ftape)), ((n 6), .inl (k 0, 99, .inl (u_2.2.2.1 0)))] := hD.sub [0, 1, 2] (by decide) rfl
  obtain ⟨hg_3, hg_4, hi_5, hg_6, hg_7, hg_8⟩ := hr_1
  have hbhi_5 := okW_bd hi_5
  have lp_54 : ∀ (nn j_47 : Nat) (m_48 : Nat) (x_49 : Int32) (x_50 : Int32) (x_51 : Int32) (x_52 : Int32) (g_53 : Nat → Int32) (H : Heap) (locs : List Loc) (ls : Array Slot), j_47 ≤ 600 → 600 - j_47 < nn → m_48 ≤ 600 → j_47 ≤ m_48 ∧ mfrom ≤ j_47 ∧ wn g_53 3 = wn ffresh 3 → (x_51 = 0 → mfaultKind = 0 ∧ mfrom < j_47) → okW g_53 → va_P D vwCl [((n 0), .inr (11, [.int mthrown, .ref (n 1), .ref (n 2), .ref (n 3), .ref (n 4), .int (nI mtaped), .ref (n 5), .int (nI msize), .int (nI m_48), .int (nI j_47), .int x_49, .int x_50, .int x_51, .int x_52, .ref (n 6), .ref (n 7), .ref (n 8), .ref (n 9), .ref (n 10), .ref (n 11), .ref (n 12), .int (nI mmoreMany), .int mlawNow, .int mwetSet, .int moverAll, .ref (n 13), .ref (n 14), .ref (n 15), .int mones, .int mtwos, .int mgone, .ref (n 16), .ref (n 17), .int mroundNow, .ref (n 18), .long msampleFor, .long msampleAll, .ref (n 19), .int maskWorst, .long moftenAll, .long moftenView, .long moftenOnes, .ref (n 20), .ref (n 21), .ref (n 22), .ref (n 23)])), ((n 4), .inl (k 1, 600, .inl ftape)), ((n 6), .inl (k 0, 99, .inl g_53))] H → va_D A [((n 0), .inr (11, [.int mthrown, .ref (n 1), .ref (n 2), .ref (n 3), .ref (n 4), .int (nI mtaped), .ref (n 5), .int (nI msize), .int (nI m_48), .int (nI j_47), .int x_49, .int x_50, .int x_51, .int x_52, .ref (n 6), .ref (n 7), .ref (n 8), .ref (n 9), .ref (n 10), .ref (n 11), .ref (n 12), .int (nI mmoreMany), .int mlawNow, .int mwetSet, .int moverAll, .ref (n 13), .ref (n 14), .ref (n 15), .int mones, .int mtwos, .int mgone, .ref (n 16), .ref (n 17), .int mroundNow, .ref (n 18), .long msampleFor, .long msampleAll, .ref (n 19), .int maskWorst, .long moftenAll, .long moftenView, .long moftenOnes, .ref (n 20), .ref (n 21), .ref (n 22), .ref (n 23)])), ((n 4), .inl (k 1, 600, .inl ftape)), ((n 6), .inl (k 0, 99, .inl g_53))] → va_S A s.heap H locs → lv_has ls 1 [(0, .ref (n 0))] → W p l e (Rm 9 0 0) s m args below meth c H locs 0 0 Q (F0 m 4 ls []) := by
    intro nn
    induction nn with
    | zero => intro j_47 m_48 x_49 x_50 x_51 x_52 g_53 H locs ls hjj_47 hnj_47 hbm_48 hr1j_47 hch hig_53; exact absurd hnj_47 (by omega)
    | succ nn ihj_47 =>
      intro j_47 m_48 x_49 x_50 x_51 x_52 g_53 H locs ls hjj_47 hnj_47 hbm_48 hr1j_47 hch hig_53 hP hD hS hl
      have hbg_53 := okW_bd hig_53
      refine lv_aload_n hx hb dX11_readRow_4 rfl (lv_at hl 0 rfl) ?_
      refine x_ldcS S hZ lsX11_190 dX11_readRow_5 ?_
      refine x_roVi (As := [.ref (z 5)]) S hK hP hD hZ (fun _ h => h) hA hS hA hl mwX11_is lkX11_158 (ctX11_is l D k z n mthrown mtaped msize m_48 j_47 x_49 x_50 x_51 x_52 mmoreMany mlawNow mwetSet moverAll mones mtwos mgone mroundNow msampleFor msampleAll maskWorst moftenAll moftenView moftenOnes ftape 5 (by omega) (by omega) (by omega) (by omega) (by omega) (by omega)) [0, 1] rfl (by decide) rfl rfl rfl rfl rfl ⟨Nat.le_of_ble_eq_true rfl, Nat.le_of_ble_eq_true rfl, Nat.le_of_ble_eq_true rfl⟩ dX11_readRow_7 ⟨Nat.le_of_ble_eq_true rfl, Nat.le_of_ble_eq_true rfl⟩ (fun r_55 H locs hr_55 hP hS => ?_)
      obtain rfl := hr_55
      refine lv_if_eq (tgt := 20) hx hb dX11_readRow_10 (by decide) (fun c_57 => ?_) (fun c_57 => ?_)
      · skip
        have c_57 : ¬ (isW x_51 x_49 m_48 j_47 ftape 5) := isB_0.mp c_57
        refine lv_aload_n hx hb dX11_readRow_20 rfl (lv_at hl 0 rfl) ?_
        refine x_get S hK hP 0 rfl cfX11 14 lkX11_31 (by decide) rfl dX11_readRow_21 ?_
        refine lv_iconst (v := 3) hx hb dX11_readRow_24 (by decide) ?_
        refine lv_dup2_11 hx hb dX11_readRow_25 rfl rfl ?_
        refine x_iald S hK hP 2 rfl (vp_lit (by decide)) dX11_readRow_26 ?_
        refine x_is (nI (wn g_53 3)) ((cl_at (f := g_53) (a := 3) (by decide) (by omega)).trans (okW_at hig_53 (i := 3) (by omega))) ?_
        refine lv_iconst (v := 1) hx hb dX11_readRow_27 (by decide) ?_
        refine lv_iadd hx hb dX11_readRow_28 ?_
        refine x_is (nI (wn g_53 3 + 1)) (ni_add rfl (by decide)) ?_
        refine x_iast (ws' := fun f_58 => [((n 0), .inr (11, [.int mthrown, .ref (n 1), .ref (n 2), .ref (n 3), .ref (n 4), .int (nI mtaped), .ref (n 5), .int (nI msize), .int (nI m_48), .int (nI j_47), .int x_49, .int x_50, .int x_51, .int x_52, .ref (n 6), .ref (n 7), .ref (n 8), .ref (n 9), .ref (n 10), .ref (n 11), .ref (n 12), .int (nI mmoreMany), .int mlawNow, .int mwetSet, .int moverAll, .ref (n 13), .ref (n 14), .ref (n 15), .int mones, .int mtwos, .int mgone, .ref (n 16), .ref (n 17), .int mroundNow, .ref (n 18), .long msampleFor, .long msampleAll, .ref (n 19), .int maskWorst, .long moftenAll, .long moftenView, .long moftenOnes, .ref (n 20), .ref (n 21), .ref (n 22), .ref (n 23)])), ((n 4), .inl (k 1, 600, .inl ftape)), ((n 6), .inl (k 0, 99, .inl f_58))]) S hK hP hD hS 2 rfl (vp_lit (by decide)) (fun _ => rfl) dX11_readRow_29 (fun f_58 H locs ef_58 hP hD hS => ?_)
        obtain ⟨hif_58, hbf_58⟩ := okW_s3 ef_58 hig_53 (by decide) (q := wn g_53 3 + 1) rfl (by omega)
        exact x_retv S hr hlk hQ hS ((fun i => ([x_49, x_50, x_51, x_52] : List (Int32)).getD i 0), (fun i => ([m_48, j_47] : List (Nat)).getD i 0), (fun i => ([f_58] : List (Nat → Int32)).getD i (fun _ => 0)), (fun i => ([] : List (Nat → Int64)).getD i (fun _ => 0)), (fun i => ([] : List (Int64)).getD i 0)) ⟨(show m_48 ≤ 600 by omega), (show j_47 ≤ 600 by omega), hif_58, (show mfrom ≤ j_47 ∧ j_47 ≤ m_48 by omega), hch⟩ (x_B hP hD) dX11_readRow_30
      · skip
        have c_57 : isW x_51 x_49 m_48 j_47 ftape 5 := isB_1.mp c_57
        refine lv_aload_n hx hb dX11_readRow_13 rfl (lv_at hl 0 rfl) ?_
        refine x_muVv (wr := []) (As := []) S hK hP hD hZ hS hA hl mwX11_readHead lkX11_194 (ctX11_readHead l D k z n mthrown mtaped msize m_48 j_47 x_49 x_50 x_51 x_52 mmoreMany mlawNow mwetSet moverAll mones mtwos mgone mroundNow msampleFor msampleAll maskWorst moftenAll moftenView moftenOnes ftape g_53 (by omega) (by omega) (by omega) (by omega) (by omega) (hig_53) (by omega) (by omega)) [0, 1, 2] [] rfl rfl (by decide) (by decide) (by decide) rfl rfl rfl rfl rfl ⟨Nat.le_of_ble_eq_true rfl, Nat.le_of_ble_eq_true rfl, Nat.le_of_ble_eq_true rfl⟩ dX11_readRow_14 ⟨Nat.le_of_ble_eq_true rfl, Nat.le_of_ble_eq_true rfl⟩ (fun u_60 H locs hr_59 hP hD hS => ?_)
        have hP : va_P D vwCl [((n 0), .inr (11, [.int mthrown, .ref (n 1), .ref (n 2), .ref (n 3), .ref (n 4), .int (nI mtaped), .ref (n 5), .int (nI msize), .int (nI (u_60.2.1 0)), .int (nI (u_60.2.1 1)), .int (u_60.1 0), .int (u_60.1 1), .int (u_60.1 2), .int (u_60.1 3), .ref (n 6), .ref (n 7), .ref (n 8), .ref (n 9), .ref (n 10), .ref (n 11), .ref (n 12), .int (nI mmoreMany), .int mlawNow, .int mwetSet, .int moverAll, .ref (n 13), .ref (n 14), .ref (n 15), .int mones, .int mtwos, .int mgone, .ref (n 16), .ref (n 17), .int mroundNow, .ref (n 18), .long msampleFor, .long msampleAll, .ref (n 19), .int maskWorst, .long moftenAll, .long moftenView, .long moftenOnes, .ref (n 20), .ref (n 21), .ref (n 22), .ref (n 23)])), ((n 4), .inl (k 1, 600, .inl ftape)), ((n 6), .inl (k 0, 99, .inl (u_60.2.2.1 0)))] H := hP.sub [0, 1, 2] rfl
        have hD : va_D A [((n 0), .inr (11, [.int mthrown, .ref (n 1), .ref (n 2), .ref (n 3), .ref (n 4), .int (nI mtaped), .ref (n 5), .int (nI msize), .int (nI (u_60.2.1 0)), .int (nI (u_60.2.1 1)), .int (u_60.1 0), .int (u_60.1 1), .int (u_60.1 2), .int (u_60.1 3), .ref (n 6), .ref (n 7), .ref (n 8), .ref (n 9), .ref (n 10), .ref (n 11), .ref (n 12), .int (nI mmoreMany), .int mlawNow, .int mwetSet, .int moverAll, .ref (n 13), .ref (n 14), .ref (n 15), .int mones, .int mtwos, .int mgone, .ref (n 16), .ref (n 17), .int mroundNow, .ref (n 18), .long msampleFor, .long msampleAll, .ref (n 19), .int maskWorst, .long moftenAll, .long moftenView, .long moftenOnes, .ref (n 20), .ref (n 21), .ref (n 22), .ref (n 23)])), ((n 4), .inl (k 1, 600, .inl ftape)), ((n 6), .inl (k 0, 99, .inl (u_60.2.2.1 0)))] := hD.sub [0, 1, 2] (by decide) rfl
        obtain ⟨hg_61, hg_62, hi_63, hg_64, hg_65, hg_66⟩ := hr_59
        have hbhi_63 := okW_bd hi_63
        by_cases hz_67 : (u_60.1 2) = 0
        · skip
          have hlt := (hg_65 hz_67).2
          refine lv_goto (tgt := 4) hx hb dX11_readRow_17 (by decide) ?_
          exact ihj_47 (u_60.2.1 1) (u_60.2.1 0) (u_60.1 0) (u_60.1 1) (u_60.1 2) (u_60.1 3) (u_60.2.2.1 0) _ _ _ (by omega) (by omega) (by omega) (by omega) (fun hz => by have k1 := hg_65 hz; have k2 := hch k1.1; exact ⟨k2.1, by omega⟩) hi_63 hP hD hS (lv_sub hl [0] rfl)
        · skip
          refine lv_goto (tgt := 4) hx hb dX11_readRow_17 (by decide) ?_
          refine lv_aload_n hx hb dX11_readRow_4 rfl (lv_at hl 0 rfl) ?_
          refine x_ldcS S hZ lsX11_190 dX11_readRow_5 ?_
          refine x_roVi (As := [.ref (z 5)]) S hK hP hD hZ (fun _ h => h) hA hS hA hl mwX11_is lkX11_158 (ctX11_is l D k z n mthrown mtaped msize (u_60.2.1 0) (u_60.2.1 1) (u_60.1 0) (u_60.1 1) (u_60.1 2) (u_60.1 3) mmoreMany mlawNow mwetSet moverAll mones mtwos mgone mroundNow msampleFor msampleAll maskWorst moftenAll moftenView moftenOnes ftape 5 (by omega) (by omega) (by omega) (by omega) (by omega) (by omega)) [0, 1] rfl (by decide) rfl rfl rfl rfl rfl ⟨Nat.le_of_ble_eq_true rfl, Nat.le_of_ble_eq_true rfl, Nat.le_of_ble_eq_true rfl⟩ dX11_readRow_7 ⟨Nat.le_of_ble_eq_true rfl, Nat.le_of_ble_eq_true rfl⟩ (fun r_68 H locs hr_68 hP hS => ?_)
          obtain rfl := hr_68
          refine lv_if_eq (tgt := 20) hx hb dX11_readRow_10 (by decide) (fun c_70 => ?_) (fun c_70 => ?_)
          · skip
            have c_70 : ¬ (isW (u_60.1 2) (u_60.1 0) (u_60.2.1 0) (u_60.2.1 1) ftape 5) := isB_0.mp c_70
            refine lv_aload_n hx hb dX11_readRow_20 rfl (lv_at hl 0 rfl) ?_
            refine x_get S hK hP 0 rfl cfX11 14 lkX11_31 (by decide) rfl dX11_readRow_21 ?_
            refine lv_iconst (v := 3) hx hb dX11_readRow_24 (by decide) ?_
            refine lv_dup2_11 hx hb dX11_readRow_25 rfl rfl ?_
            refine x_iald S hK hP 2 rfl (vp_lit (by decide)) dX11_readRow_26 ?_
            refine x_is (nI (wn (u_60.2.2.1 0) 3)) ((cl_at (f := (u_60.2.2.1 0)) (a := 3) (by decide) (by omega)).trans (okW_at hi_63 (i := 3) (by omega))) ?_
            refine lv_iconst (v := 1) hx hb dX11_readRow_27 (by decide) ?_
            refine lv_iadd hx hb dX11_readRow_28 ?_
            refine x_is (nI (wn (u_60.2.2.1 0) 3 + 1)) (ni_add rfl (by decide)) ?_
            refine x_iast (ws' := fun f_71 => [((n 0), .inr (11, [.int mthrown, .ref (n 1), .ref (n 2), .ref (n 3), .ref (n 4), .int (nI mtaped), .ref (n 5), .int (nI msize), .int (nI (u_60.2.1 0)), .int (nI (u_60.2.1 1)), .int (u_60.1 0), .int (u_60.1 1), .int (u_60.1 2), .int (u_60.1 3), .ref (n 6), .ref (n 7), .ref (n 8), .ref (n 9), .ref (n 10), .ref (n 11), .ref (n 12), .int (nI mmoreMany), .int mlawNow, .int mwetSet, .int moverAll, .ref (n 13), .ref (n 14), .ref (n 15), .int mones, .int mtwos, .int mgone, .ref (n 16), .ref (n 17), .int mroundNow, .ref (n 18), .long msampleFor, .long msampleAll, .ref (n 19), .int maskWorst, .long moftenAll, .long moftenView, .long moftenOnes, .ref (n 20), .ref (n 21), .ref (n 22), .ref (n 23)])), ((n 4), .inl (k 1, 600, .inl ftape)), ((n 6), .inl (k 0, 99, .inl f_71))]) S hK hP hD hS 2 rfl (vp_lit (by decide)) (fun _ => rfl) dX11_readRow_29 (fun f_71 H locs ef_71 hP hD hS => ?_)
            obtain ⟨hif_71, hbf_71⟩ := okW_s3 ef_71 hi_63 (by decide) (q := wn (u_60.2.2.1 0) 3 + 1) rfl (by omega)
            exact x_retv S hr hlk hQ hS ((fun i => ([(u_60.1 0), (u_60.1 1), (u_60.1 2), (u_60.1 3)] : List (Int32)).getD i 0), (fun i => ([u_60.2.1 0, u_60.2.1 1] : List (Nat)).getD i 0), (fun i => ([f_71] : List (Nat → Int32)).getD i (fun _ => 0)), (fun i => ([] : List (Nat → Int64)).getD i (fun _ => 0)), (fun i => ([] : List (Int64)).getD i 0)) ⟨(show u_60.2.1 0 ≤ 600 by omega), (show u_60.2.1 1 ≤ 600 by omega), hif_71, (show mfrom ≤ u_60.2.1 1 ∧ u_60.2.1 1 ≤ u_60.2.1 0 by omega), (fun hz => absurd hz hz_67)⟩ (x_B hP hD) dX11_readRow_30
          · skip
            have c_70 : isW (u_60.1 2) (u_60.1 0) (u_60.2.1 0) (u_60.2.1 1) ftape 5 := isB_1.mp c_70
            exact absurd c_70.1 hz_67
  exact lp_54 (600 + 1) (u_2.2.1 1) (u_2.2.1 0) (u_2.1 0) (u_2.1 1) (u_2.1 2) (u_2.1 3) (u_2.2.2.1 0) _ _ _ (by omega) (by omega) (by omega) (by omega) hg_7 hi_5 hP hD hS (lv_sub hl [0] rfl)

set_option maxHeartbeats 4000000 in
set_option maxRecDepth 100000 in
theorem ctX11_readSay (l : Launch) (D : va_G) (k : Nat → ClassId) (z : Nat → Nat) (n : Nat → Nat) (mthrown : Int32) (mtaped : Nat) (msize : Nat) (mat : Nat) (mfrom : Nat) (mtoken : Int32) (mvalue : Int32) (mfaultKind : Int32) (mfaultPlace : Int32) (mmoreMany : Nat) (mlawNow : Int32) (mwetSet : Int32) (moverAll : Int32) (mones : Int32) (mtwos : Int32) (mgone : Int32) (mroundNow : Int32) (msampleFor : Int64) (msampleAll : Int64) (maskWorst : Int32) (moftenAll : Int64) (moftenView : Int64) (moftenOnes : Int64) (ftape : Nat → Int32) (ffresh : Nat → Int32) (hmtaped : mtaped ≤ 600) (hmsize : msize ≤ 600) (hmat : mat ≤ 600) (hmfrom : mfrom ≤ 600) (hmmoreMany : mmoreMany ≤ 14) (hkfresh : okW ffresh) (hfa : mfrom ≤ mat) (h58 : wn ffresh 5 < 8) : MU l yX11_readSay cX11_readSay 2 none 8 D k z [.ref (n 0)] [((n 0), .inr (11, [.int mthrown, .ref (n 1), .ref (n 2), .ref (n 3), .ref (n 4), .int (nI mtaped), .ref (n 5), .int (nI msize), .int (nI mat), .int (nI mfrom), .int mtoken, .int mvalue, .int mfaultKind, .int mfaultPlace, .ref (n 6), .ref (n 7), .ref (n 8), .ref (n 9), .ref (n 10), .ref (n 11), .ref (n 12), .int (nI mmoreMany), .int mlawNow, .int mwetSet, .int moverAll, .ref (n 13), .ref (n 14), .ref (n 15), .int mones, .int mtwos, .int mgone, .ref (n 16), .ref (n 17), .int mroundNow, .ref (n 18), .long msampleFor, .long msampleAll, .ref (n 19), .int maskWorst, .long moftenAll, .long moftenView, .long moftenOnes, .ref (n 20), .ref (n 21), .ref (n 22), .ref (n 23)])), ((n 4), .inl (k 1, 600, .inl ftape)), ((n 6), .inl (k 0, 99, .inl ffresh))] 0 0 (Uv D (fun u : (Nat → Int32) × (Nat → Nat) × (Nat → Nat → Int32) × (Nat → Nat → Int64) × (Nat → Int64) => (u.2.1 0 ≤ 600) ∧ (u.2.1 1 ≤ 600) ∧ (okW (u.2.2.1 0)) ∧ (mfrom ≤ (u.2.1 1) ∧ (u.2.1 1) ≤ (u.2.1 0)) ∧ ((u.1 2) = 0 → mfaultKind = 0 ∧ mfrom < (u.2.1 1))) (fun u : (Nat → Int32) × (Nat → Nat) × (Nat → Nat → Int32) × (Nat → Nat → Int64) × (Nat → Int64) => [((n 0), .inr (11, [.int mthrown, .ref (n 1), .ref (n 2), .ref (n 3), .ref (n 4), .int (nI mtaped), .ref (n 5), .int (nI msize), .int (nI (u.2.1 0)), .int (nI (u.2.1 1)), .int (u.1 0), .int (u.1 1), .int (u.1 2), .int (u.1 3), .ref (n 6), .ref (n 7), .ref (n 8), .ref (n 9), .ref (n 10), .ref (n 11), .ref (n 12), .int (nI mmoreMany), .int mlawNow, .int mwetSet, .int moverAll, .ref (n 13), .ref (n 14), .ref (n 15), .int mones, .int mtwos, .int mgone, .ref (n 16), .ref (n 17), .int mroundNow, .ref (n 18), .long msampleFor, .long msampleAll, .ref (n 19), .int maskWorst, .long moftenAll, .long moftenView, .long moftenOnes, .ref (n 20), .ref (n 21), .ref (n 22), .ref (n 23)])), ((n 4), .inl (k 1, 600, .inl ftape)), ((n 6), .inl (k 0, 99, .inl (u.2.2.1 0)))])) := by
  refine MU.of (by decide) (Nat.le_of_ble_eq_true rfl) ?_
  intro p e s m below meth c ls A args Q S hr hlk hnm hQ hK hP hD hZ hA hS hl
  have hx := S.1
  have hb := S.2.1
  have hl : lv_has ls 2 [(0, .ref (n 0))] := hl
  have hbffresh := okW_bd hkfresh
  refine lv_bipush (v := 37) hx hb dX11_readSay_0 (by decide) ?_
  refine lv_iconst (v := 3) hx hb dX11_readSay_2 (by decide) ?_
  refine lv_aload_n hx hb dX11_readSay_3 rfl (lv_at hl 0 rfl) ?_
  refine x_get S hK hP 0 rfl cfX11 14 lkX11_31 (by decide) rfl dX11_readSay_4 ?_
  refine lv_iconst (v := 5) hx hb dX11_readSay_7 (by decide) ?_
  refine x_iald S hK hP 2 rfl (vp_lit (by decide)) dX11_readSay_8 ?_
  refine x_is (nI (wn ffresh 5)) ((cl_at (f := ffresh) (a := 5) (by decide) (by omega)).trans (okW_at hkfresh (i := 5) (by omega))) ?_
  refine lv_imul hx hb dX11_readSay_9 ?_
  refine x_is (nI (3 * (wn ffresh 5))) (ni_mul (by decide) rfl) ?_
  refine lv_iadd hx hb dX11_readSay_10 ?_
  refine x_is (nI (37 + 3 * (wn ffresh 5))) (ni_add (by decide) rfl) ?_
  refine lv_istore_n (lv' := [(1, .int (nI (37 + 3 * (wn ffresh 5)))), (0, .ref (n 0))]) hx hb dX11_readSay_11 rfl hl (by decide) rfl (fun ls hl => ?_)
  refine lv_aload_n hx hb dX11_readSay_12 rfl (lv_at hl 1 rfl) ?_
  refine x_get S hK hP 0 rfl cfX11 14 lkX11_31 (by decide) rfl dX11_readSay_13 ?_
  refine lv_iload_n hx hb dX11_readSay_16 rfl (lv_at hl 0 rfl) ?_
  refine lv_aload_n hx hb dX11_readSay_17 rfl (lv_at hl 1 rfl) ?_
  refine lv_iconst (v := 1) hx hb dX11_readSay_18 (by decide) ?_
  refine lv_iconst (v := 2) hx hb dX11_readSay_19 (by decide) ?_
  refine x_muVi (wr := [((n 6), .inl (k 0, 99, .inl ffresh))]) (As := [.int 1, .int 2]) S hK hP hD hZ hS hA hl mwX11_number lkX11_176 (ctX11_number_n l D k z n mthrown mtaped msize mat mfrom mtoken mvalue mfaultKind mfaultPlace mmoreMany mlawNow mwetSet moverAll mones mtwos mgone mroundNow msampleFor msampleAll maskWorst moftenAll moftenView moftenOnes ftape 1 2 (by omega) (by omega) (by omega) (by omega) (by omega) (by omega) (by omega) (by omega)) [0, 1] [2] rfl rfl (by decide) (by decide) (by decide) rfl rfl rfl rfl rfl ⟨Nat.le_of_ble_eq_true rfl, Nat.le_of_ble_eq_true rfl, Nat.le_of_ble_eq_true rfl⟩ dX11_readSay_20 ⟨Nat.le_of_ble_eq_true rfl, Nat.le_of_ble_eq_true rfl⟩ (fun r_1 u_2 H locs hr_1 hP hD hS => ?_)
  have hP : va_P D vwCl [((n 0), .inr (11, [.int mthrown, .ref (n 1), .ref (n 2), .ref (n 3), .ref (n 4), .int (nI mtaped), .ref (n 5), .int (nI msize), .int (nI (u_2.2.1 0)), .int (nI (u_2.2.1 1)), .int (u_2.1 0), .int (u_2.1 1), .int (u_2.1 2), .int (u_2.1 3), .ref (n 6), .ref (n 7), .ref (n 8), .ref (n 9), .ref (n 10), .ref (n 11), .ref (n 12), .int (nI mmoreMany), .int mlawNow, .int mwetSet, .int moverAll, .ref (n 13), .ref (n 14), .ref (n 15), .int mones, .int mtwos, .int mgone, .ref (n 16), .ref (n 17), .int mroundNow, .ref (n 18), .long msampleFor, .long msampleAll, .ref (n 19), .int maskWorst, .long moftenAll, .long moftenView, .long moftenOnes, .ref (n 20), .ref (n 21), .ref (n 22), .ref (n 23)])), ((n 4), .inl (k 1, 600, .inl ftape)), ((n 6), .inl (k 0, 99, .inl ffresh))] H := hP.sub [1, 2, 0] rfl
  have hD : va_D A [((n 0), .inr (11, [.int mthrown, .ref (n 1), .ref (n 2), .ref (n 3), .ref (n 4), .int (nI mtaped), .ref (n 5), .int (nI msize), .int (nI (u_2.2.1 0)), .int (nI (u_2.2.1 1)), .int (u_2.1 0), .int (u_2.1 1), .int (u_2.1 2), .int (u_2.1 3), .ref (n 6), .ref (n 7), .ref (n 8), .ref (n 9), .ref (n 10), .ref (n 11), .ref (n 12), .int (nI mmoreMany), .int mlawNow, .int mwetSet, .int moverAll, .ref (n 13), .ref (n 14), .ref (n 15), .int mones, .int mtwos, .int mgone, .ref (n 16), .ref (n 17), .int mroundNow, .ref (n 18), .long msampleFor, .long msampleAll, .ref (n 19), .int maskWorst, .long moftenAll, .long moftenView, .long moftenOnes, .ref (n 20), .ref (n 21), .ref (n 22), .ref (n 23)])), ((n 4), .inl (k 1, 600, .inl ftape)), ((n 6), .inl (k 0, 99, .inl ffresh))] := hD.sub [1, 2, 0] (by decide) rfl
  obtain ⟨⟨n_3, rfl, hn_3⟩, hg_4, hg_5, hg_6, hg_7⟩ := hr_1
  refine x_iast (ws' := fun f_8 => [((n 0), .inr (11, [.int mthrown, .ref (n 1), .ref (n 2), .ref (n 3), .ref (n 4), .int (nI mtaped), .ref (n 5), .int (nI msize), .int (nI (u_2.2.1 0)), .int (nI (u_2.2.1 1)), .int (u_2.1 0), .int (u_2.1 1), .int (u_2.1 2), .int (u_2.1 3), .ref (n 6), .ref (n 7), .ref (n 8), .ref (n 9), .ref (n 10), .ref (n 11), .ref (n 12), .int (nI mmoreMany), .int mlawNow, .int mwetSet, .int moverAll, .ref (n 13), .ref (n 14), .ref (n 15), .int mones, .int mtwos, .int mgone, .ref (n 16), .ref (n 17), .int mroundNow, .ref (n 18), .long msampleFor, .long msampleAll, .ref (n 19), .int maskWorst, .long moftenAll, .long moftenView, .long moftenOnes, .ref (n 20), .ref (n 21), .ref (n 22), .ref (n 23)])), ((n 4), .inl (k 1, 600, .inl ftape)), ((n 6), .inl (k 0, 99, .inl f_8))]) S hK hP hD hS 2 rfl (vp_in_nI (by omega) (by decide)) (fun _ => rfl) dX11_readSay_23 (fun f_8 H locs ef_8 hP hD hS => ?_)
  obtain ⟨hif_8, hbf_8⟩ := okW_hi ef_8 hkfresh (a := 37 + 3 * (wn ffresh 5)) rfl (by omega) (by omega)
  refine lv_aload_n hx hb dX11_readSay_24 rfl (lv_at hl 1 rfl) ?_
  refine x_get S hK hP 0 rfl cfX11 14 lkX11_31 (by decide) rfl dX11_readSay_25 ?_
  refine lv_iload_n hx hb dX11_readSay_28 rfl (lv_at hl 0 rfl) ?_
  refine lv_iconst (v := 1) hx hb dX11_readSay_29 (by decide) ?_
  refine lv_iadd hx hb dX11_readSay_30 ?_
  refine x_is (nI (37 + 3 * (wn ffresh 5) + 1)) (ni_add rfl (by decide)) ?_
  refine lv_aload_n hx hb dX11_readSay_31 rfl (lv_at hl 1 rfl) ?_
  refine x_ldcS S hZ lsX11_197 dX11_readSay_32 ?_
  refine lv_iconst (v := 0) hx hb dX11_readSay_34 (by decide) ?_
  refine lv_aload_n hx hb dX11_readSay_35 rfl (lv_at hl 1 rfl) ?_
  refine x_get S hK hP 0 rfl cfX11 14 lkX11_31 (by decide) rfl dX11_readSay_36 ?_
  refine lv_iconst (v := 4) hx hb dX11_readSay_39 (by decide) ?_
  refine x_iald S hK hP 2 rfl (vp_lit (by decide)) dX11_readSay_40 ?_
  refine x_is (nI (wn f_8 4)) ((cl_at (f := f_8) (a := 4) (by decide) (by omega)).trans (okW_at hif_8 (i := 4) (by omega))) ?_
  refine lv_iconst (v := 1) hx hb dX11_readSay_41 (by decide) ?_
  refine lv_isub hx hb dX11_readSay_42 ?_
  refine lv_topi (fun v_9 ev_9 => ?_)
  refine x_muVi (wr := [((n 6), .inl (k 0, 99, .inl f_8))]) (As := [.ref (z 9), .int 0, .int v_9]) S hK hP hD hZ hS hA hl mwX11_told lkX11_182 (ctX11_told l D k z n mthrown mtaped msize (u_2.2.1 0) (u_2.2.1 1) (u_2.1 0) (u_2.1 1) (u_2.1 2) (u_2.1 3) mmoreMany mlawNow mwetSet moverAll mones mtwos mgone mroundNow msampleFor msampleAll maskWorst moftenAll moftenView moftenOnes ftape 9 0 v_9 (by omega) (by omega) (by omega) (by omega) (by omega) (by omega) (by omega)) [0, 1] [2] rfl rfl (by decide) (by decide) (by decide) rfl rfl rfl rfl rfl ⟨Nat.le_of_ble_eq_true rfl, Nat.le_of_ble_eq_true rfl, Nat.le_of_ble_eq_true rfl⟩ dX11_readSay_43 ⟨Nat.le_of_ble_eq_true rfl, Nat.le_of_ble_eq_true rfl⟩ (fun r_10 u_11 H locs hr_10 hP hD hS => ?_)
  have hP : va_P D vwCl [((n 0), .inr (11, [.int mthrown, .ref (n 1), .ref (n 2), .ref (n 3), .ref (n 4), .int (nI mtaped), .ref (n 5), .int (nI msize), .int (nI (u_11.2.1 0)), .int (nI (u_11.2.1 1)), .int (u_11.1 0), .int (u_11.1 1), .int (u_11.1 2), .int (u_11.1 3), .ref (n 6), .ref (n 7), .ref (n 8), .ref (n 9), .ref (n 10), .ref (n 11), .ref (n 12), .int (nI mmoreMany), .int mlawNow, .int mwetSet, .int moverAll, .ref (n 13), .ref (n 14), .ref (n 15), .int mones, .int mtwos, .int mgone, .ref (n 16), .ref (n 17), .int mroundNow, .ref (n 18), .long msampleFor, .long msampleAll, .ref (n 19), .int maskWorst, .long moftenAll, .long moftenView, .long moftenOnes, .ref (n 20), .ref (n 21), .ref (n 22), .ref (n 23)])), ((n 4), .inl (k 1, 600, .inl ftape)), ((n 6), .inl (k 0, 99, .inl f_8))] H := hP.sub [1, 2, 0] rfl
  have hD : va_D A [((n 0), .inr (11, [.int mthrown, .ref (n 1), .ref (n 2), .ref (n 3), .ref (n 4), .int (nI mtaped), .ref (n 5), .int (nI msize), .int (nI (u_11.2.1 0)), .int (nI (u_11.2.1 1)), .int (u_11.1 0), .int (u_11.1 1), .int (u_11.1 2), .int (u_11.1 3), .ref (n 6), .ref (n 7), .ref (n 8), .ref (n 9), .ref (n 10), .ref (n 11), .ref (n 12), .int (nI mmoreMany), .int mlawNow, .int mwetSet, .int moverAll, .ref (n 13), .ref (n 14), .ref (n 15), .int mones, .int mtwos, .int mgone, .ref (n 16), .ref (n 17), .int mroundNow, .ref (n 18), .long msampleFor, .long msampleAll, .ref (n 19), .int maskWorst, .long moftenAll, .long moftenView, .long moftenOnes, .ref (n 20), .ref (n 21), .ref (n 22), .ref (n 23)])), ((n 4), .inl (k 1, 600, .inl ftape)), ((n 6), .inl (k 0, 99, .inl f_8))] := hD.sub [1, 2, 0] (by decide) rfl
  obtain ⟨hg_12, hg_13, hg_14, hg_15⟩ := hr_10
  refine x_iast (ws' := fun f_16 => [((n 0), .inr (11, [.int mthrown, .ref (n 1), .ref (n 2), .ref (n 3), .ref (n 4), .int (nI mtaped), .ref (n 5), .int (nI msize), .int (nI (u_11.2.1 0)), .int (nI (u_11.2.1 1)), .int (u_11.1 0), .int (u_11.1 1), .int (u_11.1 2), .int (u_11.1 3), .ref (n 6), .ref (n 7), .ref (n 8), .ref (n 9), .ref (n 10), .ref (n 11), .ref (n 12), .int (nI mmoreMany), .int mlawNow, .int mwetSet, .int moverAll, .ref (n 13), .ref (n 14), .ref (n 15), .int mones, .int mtwos, .int mgone, .ref (n 16), .ref (n 17), .int mroundNow, .ref (n 18), .long msampleFor, .long msampleAll, .ref (n 19), .int maskWorst, .long moftenAll, .long moftenView, .long moftenOnes, .ref (n 20), .ref (n 21), .ref (n 22), .ref (n 23)])), ((n 4), .inl (k 1, 600, .inl ftape)), ((n 6), .inl (k 0, 99, .inl f_16))]) S hK hP hD hS 2 rfl (vp_in_nI (by omega) (by decide)) (fun _ => rfl) dX11_readSay_46 (fun f_16 H locs ef_16 hP hD hS => ?_)
  obtain ⟨hif_16, hbf_16⟩ := okW_hi ef_16 hif_8 (a := 37 + 3 * (wn ffresh 5) + 1) rfl (by omega) (by omega)
  refine lv_aload_n hx hb dX11_readSay_47 rfl (lv_at hl 1 rfl) ?_
  refine x_get S hK hP 0 rfl cfX11 14 lkX11_31 (by decide) rfl dX11_readSay_48 ?_
  refine lv_iload_n hx hb dX11_readSay_51 rfl (lv_at hl 0 rfl) ?_
  refine lv_iconst (v := 2) hx hb dX11_readSay_52 (by decide) ?_
  refine lv_iadd hx hb dX11_readSay_53 ?_
  refine x_is (nI (37 + 3 * (wn ffresh 5) + 2)) (ni_add rfl (by decide)) ?_
  refine lv_aload_n hx hb dX11_readSay_54 rfl (lv_at hl 1 rfl) ?_
  refine x_ldcS S hZ lsX11_199 dX11_readSay_55 ?_
  refine lv_iconst (v := 0) hx hb dX11_readSay_57 (by decide) ?_
  refine lv_bipush (v := 15) hx hb dX11_readSay_58 (by decide) ?_
  refine x_muVi (wr := [((n 6), .inl (k 0, 99, .inl f_16))]) (As := [.ref (z 10), .int 0, .int 15]) S hK hP hD hZ hS hA hl mwX11_told lkX11_182 (ctX11_told_n l D k z n mthrown mtaped msize (u_11.2.1 0) (u_11.2.1 1) (u_11.1 0) (u_11.1 1) (u_11.1 2) (u_11.1 3) mmoreMany mlawNow mwetSet moverAll mones mtwos mgone mroundNow msampleFor msampleAll maskWorst moftenAll moftenView moftenOnes ftape 10 0 15 (by omega) (by omega) (by omega) (by omega) (by omega) (by omega) (by omega) (by omega) (by omega)) [0, 1] [2] rfl rfl (by decide) (by decide) (by decide) rfl rfl rfl rfl rfl ⟨Nat.le_of_ble_eq_true rfl, Nat.le_of_ble_eq_true rfl, Nat.le_of_ble_eq_true rfl⟩ dX11_readSay_60 ⟨Nat.le_of_ble_eq_true rfl, Nat.le_of_ble_eq_true rfl⟩ (fun r_17 u_18 H locs hr_17 hP hD hS => ?_)
  have hP : va_P D vwCl [((n 0), .inr (11, [.int mthrown, .ref (n 1), .ref (n 2), .ref (n 3), .ref (n 4), .int (nI mtaped), .ref (n 5), .int (nI msize), .int (nI (u_18.2.1 0)), .int (nI (u_18.2.1 1)), .int (u_18.1 0), .int (u_18.1 1), .int (u_18.1 2), .int (u_18.1 3), .ref (n 6), .ref (n 7), .ref (n 8), .ref (n 9), .ref (n 10), .ref (n 11), .ref (n 12), .int (nI mmoreMany), .int mlawNow, .int mwetSet, .int moverAll, .ref (n 13), .ref (n 14), .ref (n 15), .int mones, .int mtwos, .int mgone, .ref (n 16), .ref (n 17), .int mroundNow, .ref (n 18), .long msampleFor, .long msampleAll, .ref (n 19), .int maskWorst, .long moftenAll, .long moftenView, .long moftenOnes, .ref (n 20), .ref (n 21), .ref (n 22), .ref (n 23)])), ((n 4), .inl (k 1, 600, .inl ftape)), ((n 6), .inl (k 0, 99, .inl f_16))] H := hP.sub [1, 2, 0] rfl
  have hD : va_D A [((n 0), .inr (11, [.int mthrown, .ref (n 1), .ref (n 2), .ref (n 3), .ref (n 4), .int (nI mtaped), .ref (n 5), .int (nI msize), .int (nI (u_18.2.1 0)), .int (nI (u_18.2.1 1)), .int (u_18.1 0), .int (u_18.1 1), .int (u_18.1 2), .int (u_18.1 3), .ref (n 6), .ref (n 7), .ref (n 8), .ref (n 9), .ref (n 10), .ref (n 11), .ref (n 12), .int (nI mmoreMany), .int mlawNow, .int mwetSet, .int moverAll, .ref (n 13), .ref (n 14), .ref (n 15), .int mones, .int mtwos, .int mgone, .ref (n 16), .ref (n 17), .int mroundNow, .ref (n 18), .long msampleFor, .long msampleAll, .ref (n 19), .int maskWorst, .long moftenAll, .long moftenView, .long moftenOnes, .ref (n 20), .ref (n 21), .ref (n 22), .ref (n 23)])), ((n 4), .inl (k 1, 600, .inl ftape)), ((n 6), .inl (k 0, 99, .inl f_16))] := hD.sub [1, 2, 0] (by decide) rfl
  obtain ⟨⟨n_19, rfl, hn_19⟩, hg_20, hg_21, hg_22, hg_23⟩ := hr_17
  refine x_iast (ws' := fun f_24 => [((n 0), .inr (11, [.int mthrown, .ref (n 1), .ref (n 2), .ref (n 3), .ref (n 4), .int (nI mtaped), .ref (n 5), .int (nI msize), .int (nI (u_18.2.1 0)), .int (nI (u_18.2.1 1)), .int (u_18.1 0), .int (u_18.1 1), .int (u_18.1 2), .int (u_18.1 3), .ref (n 6), .ref (n 7), .ref (n 8), .ref (n 9), .ref (n 10), .ref (n 11), .ref (n 12), .int (nI mmoreMany), .int mlawNow, .int mwetSet, .int moverAll, .ref (n 13), .ref (n 14), .ref (n 15), .int mones, .int mtwos, .int mgone, .ref (n 16), .ref (n 17), .int mroundNow, .ref (n 18), .long msampleFor, .long msampleAll, .ref (n 19), .int maskWorst, .long moftenAll, .long moftenView, .long moftenOnes, .ref (n 20), .ref (n 21), .ref (n 22), .ref (n 23)])), ((n 4), .inl (k 1, 600, .inl ftape)), ((n 6), .inl (k 0, 99, .inl f_24))]) S hK hP hD hS 2 rfl (vp_in_nI (by omega) (by decide)) (fun _ => rfl) dX11_readSay_63 (fun f_24 H locs ef_24 hP hD hS => ?_)
  obtain ⟨hif_24, hbf_24⟩ := okW_hi ef_24 hif_16 (a := 37 + 3 * (wn ffresh 5) + 2) rfl (by omega) (by omega)
  refine lv_aload_n hx hb dX11_readSay_64 rfl (lv_at hl 1 rfl) ?_
  refine x_get S hK hP 0 rfl cfX11 14 lkX11_31 (by decide) rfl dX11_readSay_65 ?_
  refine lv_iconst (v := 5) hx hb dX11_readSay_68 (by decide) ?_
  refine lv_dup2_11 hx hb dX11_readSay_69 rfl rfl ?_
  refine x_iald S hK hP 2 rfl (vp_lit (by decide)) dX11_readSay_70 ?_
  refine x_is (nI (wn f_24 5)) ((cl_at (f := f_24) (a := 5) (by decide) (by omega)).trans (okW_at hif_24 (i := 5) (by omega))) ?_
  refine lv_iconst (v := 1) hx hb dX11_readSay_71 (by decide) ?_
  refine lv_iadd hx hb dX11_readSay_72 ?_
  refine x_is (nI (wn f_24 5 + 1)) (ni_add rfl (by decide)) ?_
  refine x_iast (ws' := fun f_25 => [((n 0), .inr (11, [.int mthrown, .ref (n 1), .ref (n 2), .ref (n 3), .ref (n 4), .int (nI mtaped), .ref (n 5), .int (nI msize), .int (nI (u_18.2.1 0)), .int (nI (u_18.2.1 1)), .int (u_18.1 0), .int (u_18.1 1), .int (u_18.1 2), .int (u_18.1 3), .ref (n 6), .ref (n 7), .ref (n 8), .ref (n 9), .ref (n 10), .ref (n 11), .ref (n 12), .int (nI mmoreMany), .int mlawNow, .int mwetSet, .int moverAll, .ref (n 13), .ref (n 14), .ref (n 15), .int mones, .int mtwos, .int mgone, .ref (n 16), .ref (n 17), .int mroundNow, .ref (n 18), .long msampleFor, .long msampleAll, .ref (n 19), .int maskWorst, .long moftenAll, .long moftenView, .long moftenOnes, .ref (n 20), .ref (n 21), .ref (n 22), .ref (n 23)])), ((n 4), .inl (k 1, 600, .inl ftape)), ((n 6), .inl (k 0, 99, .inl f_25))]) S hK hP hD hS 2 rfl (vp_lit (by decide)) (fun _ => rfl) dX11_readSay_73 (fun f_25 H locs ef_25 hP hD hS => ?_)
  obtain ⟨hif_25, hbf_25⟩ := okW_s5 ef_25 hif_24 (by decide) (q := wn f_24 5 + 1) rfl (by omega)
  exact x_retv S hr hlk hQ hS ((fun i => ([(u_18.1 0), (u_18.1 1), (u_18.1 2), (u_18.1 3)] : List (Int32)).getD i 0), (fun i => ([u_18.2.1 0, u_18.2.1 1] : List (Nat)).getD i 0), (fun i => ([f_25] : List (Nat → Int32)).getD i (fun _ => 0)), (fun i => ([] : List (Nat → Int64)).getD i (fun _ => 0)), (fun i => ([] : List (Int64)).getD i 0)) ⟨(show u_18.2.1 0 ≤ 600 by omega), (show u_18.2.1 1 ≤ 600 by omega), hif_25, (show mfrom ≤ u_18.2.1 1 ∧ u_18.2.1 1 ≤ u_18.2.1 0 by omega), (fun hz => (show mfaultKind = 0 ∧ mfrom < u_18.2.1 1 by have k_26 := hg_23 hz; have k_27 := hg_15 k_26.1; have k_28 := hg_7 k_27.1; exact ⟨k_28.1, by omega⟩))⟩ (x_B hP hD) dX11_readSay_74

set_option maxHeartbeats 4000000 in
set_option maxRecDepth 100000 in
theorem ctX11_readSlug (l : Launch) (D : va_G) (k : Nat → ClassId) (z : Nat → Nat) (n : Nat → Nat) (mthrown : Int32) (mtaped : Nat) (msize : Nat) (mat : Nat) (mfrom : Nat) (mtoken : Int32) (mvalue : Int32) (mfaultKind : Int32) (mfaultPlace : Int32) (mmoreMany : Nat) (mlawNow : Int32) (mwetSet : Int32) (moverAll : Int32) (mones : Int32) (mtwos : Int32) (mgone : Int32) (mroundNow : Int32) (msampleFor : Int64) (msampleAll : Int64) (maskWorst : Int32) (moftenAll : Int64) (moftenView : Int64) (moftenOnes : Int64) (ftape : Nat → Int32) (ffresh : Nat → Int32) (hmtaped : mtaped ≤ 600) (hmsize : msize ≤ 600) (hmat : mat ≤ 600) (hmfrom : mfrom ≤ 600) (hmmoreMany : mmoreMany ≤ 14) (hkfresh : okW ffresh) (hfa : mfrom ≤ mat) (h64 : wn ffresh 6 < 4) : MU l yX11_readSlug cX11_readSlug 2 none 8 D k z [.ref (n 0)] [((n 0), .inr (11, [.int mthrown, .ref (n 1), .ref (n 2), .ref (n 3), .ref (n 4), .int (nI mtaped), .ref (n 5), .int (nI msize), .int (nI mat), .int (nI mfrom), .int mtoken, .int mvalue, .int mfaultKind, .int mfaultPlace, .ref (n 6), .ref (n 7), .ref (n 8), .ref (n 9), .ref (n 10), .ref (n 11), .ref (n 12), .int (nI mmoreMany), .int mlawNow, .int mwetSet, .int moverAll, .ref (n 13), .ref (n 14), .ref (n 15), .int mones, .int mtwos, .int mgone, .ref (n 16), .ref (n 17), .int mroundNow, .ref (n 18), .long msampleFor, .long msampleAll, .ref (n 19), .int maskWorst, .long moftenAll, .long moftenView, .long moftenOnes, .ref (n 20), .ref (n 21), .ref (n 22), .ref (n 23)])), ((n 4), .inl (k 1, 600, .inl ftape)), ((n 6), .inl (k 0, 99, .inl ffresh))] 0 0 (Uv D (fun u : (Nat → Int32) × (Nat → Nat) × (Nat → Nat → Int32) × (Nat → Nat → Int64) × (Nat → Int64) => (u.2.1 0 ≤ 600) ∧ (u.2.1 1 ≤ 600) ∧ (okW (u.2.2.1 0)) ∧ (mfrom ≤ (u.2.1 1) ∧ (u.2.1 1) ≤ (u.2.1 0)) ∧ ((u.1 2) = 0 → mfaultKind = 0 ∧ mfrom < (u.2.1 1))) (fun u : (Nat → Int32) × (Nat → Nat) × (Nat → Nat → Int32) × (Nat → Nat → Int64) × (Nat → Int64) => [((n 0), .inr (11, [.int mthrown, .ref (n 1), .ref (n 2), .ref (n 3), .ref (n 4), .int (nI mtaped), .ref (n 5), .int (nI msize), .int (nI (u.2.1 0)), .int (nI (u.2.1 1)), .int (u.1 0), .int (u.1 1), .int (u.1 2), .int (u.1 3), .ref (n 6), .ref (n 7), .ref (n 8), .ref (n 9), .ref (n 10), .ref (n 11), .ref (n 12), .int (nI mmoreMany), .int mlawNow, .int mwetSet, .int moverAll, .ref (n 13), .ref (n 14), .ref (n 15), .int mones, .int mtwos, .int mgone, .ref (n 16), .ref (n 17), .int mroundNow, .ref (n 18), .long msampleFor, .long msampleAll, .ref (n 19), .int maskWorst, .long moftenAll, .long moftenView, .long moftenOnes, .ref (n 20), .ref (n 21), .ref (n 22), .ref (n 23)])), ((n 4), .inl (k 1, 600, .inl ftape)), ((n 6), .inl (k 0, 99, .inl (u.2.2.1 0)))])) := by
  refine MU.of (by decide) (Nat.le_of_ble_eq_true rfl) ?_
  intro p e s m below meth c ls A args Q S hr hlk hnm hQ hK hP hD hZ hA hS hl
  have hx := S.1
  have hb := S.2.1
  have hl : lv_has ls 2 [(0, .ref (n 0))] := hl
  have hbffresh := okW_bd hkfresh
  refine lv_bipush (v := 61) hx hb dX11_readSlug_0 (by decide) ?_
  refine lv_iconst (v := 2) hx hb dX11_readSlug_2 (by decide) ?_
  refine lv_aload_n hx hb dX11_readSlug_3 rfl (lv_at hl 0 rfl) ?_
  refine x_get S hK hP 0 rfl cfX11 14 lkX11_31 (by decide) rfl dX11_readSlug_4 ?_
  refine lv_bipush (v := 6) hx hb dX11_readSlug_7 (by decide) ?_
  refine x_iald S hK hP 2 rfl (vp_lit (by decide)) dX11_readSlug_9 ?_
  refine x_is (nI (wn ffresh 6)) ((cl_at (f := ffresh) (a := 6) (by decide) (by omega)).trans (okW_at hkfresh (i := 6) (by omega))) ?_
  refine lv_imul hx hb dX11_readSlug_10 ?_
  refine x_is (nI (2 * (wn ffresh 6))) (ni_mul (by decide) rfl) ?_
  refine lv_iadd hx hb dX11_readSlug_11 ?_
  refine x_is (nI (61 + 2 * (wn ffresh 6))) (ni_add (by decide) rfl) ?_
  refine lv_istore_n (lv' := [(1, .int (nI (61 + 2 * (wn ffresh 6)))), (0, .ref (n 0))]) hx hb dX11_readSlug_12 rfl hl (by decide) rfl (fun ls hl => ?_)
  refine lv_aload_n hx hb dX11_readSlug_13 rfl (lv_at hl 1 rfl) ?_
  refine x_get S hK hP 0 rfl cfX11 14 lkX11_31 (by decide) rfl dX11_readSlug_14 ?_
  refine lv_iload_n hx hb dX11_readSlug_17 rfl (lv_at hl 0 rfl) ?_
  refine lv_aload_n hx hb dX11_readSlug_18 rfl (lv_at hl 1 rfl) ?_
  refine x_ldcS S hZ lsX11_197 dX11_readSlug_19 ?_
  refine lv_iconst (v := 0) hx hb dX11_readSlug_21 (by decide) ?_
  refine lv_aload_n hx hb dX11_readSlug_22 rfl (lv_at hl 1 rfl) ?_
  refine x_get S hK hP 0 rfl cfX11 14 lkX11_31 (by decide) rfl dX11_readSlug_23 ?_
  refine lv_iconst (v := 4) hx hb dX11_readSlug_26 (by decide) ?_
  refine x_iald S hK hP 2 rfl (vp_lit (by decide)) dX11_readSlug_27 ?_
  refine x_is (nI (wn ffresh 4)) ((cl_at (f := ffresh) (a := 4) (by decide) (by omega)).trans (okW_at hkfresh (i := 4) (by omega))) ?_
  refine lv_iconst (v := 1) hx hb dX11_readSlug_28 (by decide) ?_
  refine lv_isub hx hb dX11_readSlug_29 ?_
  refine lv_topi (fun v_1 ev_1 => ?_)
  refine x_muVi (wr := [((n 6), .inl (k 0, 99, .inl ffresh))]) (As := [.ref (z 9), .int 0, .int v_1]) S hK hP hD hZ hS hA hl mwX11_told lkX11_182 (ctX11_told l D k z n mthrown mtaped msize mat mfrom mtoken mvalue mfaultKind mfaultPlace mmoreMany mlawNow mwetSet moverAll mones mtwos mgone mroundNow msampleFor msampleAll maskWorst moftenAll moftenView moftenOnes ftape 9 0 v_1 (by omega) (by omega) (by omega) (by omega) (by omega) (by omega) (by omega)) [0, 1] [2] rfl rfl (by decide) (by decide) (by decide) rfl rfl rfl rfl rfl ⟨Nat.le_of_ble_eq_true rfl, Nat.le_of_ble_eq_true rfl, Nat.le_of_ble_eq_true rfl⟩ dX11_readSlug_30 ⟨Nat.le_of_ble_eq_true rfl, Nat.le_of_ble_eq_true rfl⟩ (fun r_2 u_3 H locs hr_2 hP hD hS => ?_)
  have hP : va_P D vwCl [((n 0), .inr (11, [.int mthrown, .ref (n 1), .ref (n 2), .ref (n 3), .ref (n 4), .int (nI mtaped), .ref (n 5), .int (nI msize), .int (nI (u_3.2.1 0)), .int (nI (u_3.2.1 1)), .int (u_3.1 0), .int (u_3.1 1), .int (u_3.1 2), .int (u_3.1 3), .ref (n 6), .ref (n 7), .ref (n 8), .ref (n 9), .ref (n 10), .ref (n 11), .ref (n 12), .int (nI mmoreMany), .int mlawNow, .int mwetSet, .int moverAll, .ref (n 13), .ref (n 14), .ref (n 15), .int mones, .int mtwos, .int mgone, .ref (n 16), .ref (n 17), .int mroundNow, .ref (n 18), .long msampleFor, .long msampleAll, .ref (n 19), .int maskWorst, .long moftenAll, .long moftenView, .long moftenOnes, .ref (n 20), .ref (n 21), .ref (n 22), .ref (n 23)])), ((n 4), .inl (k 1, 600, .inl ftape)), ((n 6), .inl (k 0, 99, .inl ffresh))] H := hP.sub [1, 2, 0] rfl
  have hD : va_D A [((n 0), .inr (11, [.int mthrown, .ref (n 1), .ref (n 2), .ref (n 3), .ref (n 4), .int (nI mtaped), .ref (n 5), .int (nI msize), .int (nI (u_3.2.1 0)), .int (nI (u_3.2.1 1)), .int (u_3.1 0), .int (u_3.1 1), .int (u_3.1 2), .int (u_3.1 3), .ref (n 6), .ref (n 7), .ref (n 8), .ref (n 9), .ref (n 10), .ref (n 11), .ref (n 12), .int (nI mmoreMany), .int mlawNow, .int mwetSet, .int moverAll, .ref (n 13), .ref (n 14), .ref (n 15), .int mones, .int mtwos, .int mgone, .ref (n 16), .ref (n 17), .int mroundNow, .ref (n 18), .long msampleFor, .long msampleAll, .ref (n 19), .int maskWorst, .long moftenAll, .long moftenView, .long moftenOnes, .ref (n 20), .ref (n 21), .ref (n 22), .ref (n 23)])), ((n 4), .inl (k 1, 600, .inl ftape)), ((n 6), .inl (k 0, 99, .inl ffresh))] := hD.sub [1, 2, 0] (by decide) rfl
  obtain ⟨hg_4, hg_5, hg_6, hg_7⟩ := hr_2
  refine x_iast (ws' := fun f_8 => [((n 0), .inr (11, [.int mthrown, .ref (n 1), .ref (n 2), .ref (n 3), .ref (n 4), .int (nI mtaped), .ref (n 5), .int (nI msize), .int (nI (u_3.2.1 0)), .int (nI (u_3.2.1 1)), .int (u_3.1 0), .int (u_3.1 1), .int (u_3.1 2), .int (u_3.1 3), .ref (n 6), .ref (n 7), .ref (n 8), .ref (n 9), .ref (n 10), .ref (n 11), .ref (n 12), .int (nI mmoreMany), .int mlawNow, .int mwetSet, .int moverAll, .ref (n 13), .ref (n 14), .ref (n 15), .int mones, .int mtwos, .int mgone, .ref (n 16), .ref (n 17), .int mroundNow, .ref (n 18), .long msampleFor, .long msampleAll, .ref (n 19), .int maskWorst, .long moftenAll, .long moftenView, .long moftenOnes, .ref (n 20), .ref (n 21), .ref (n 22), .ref (n 23)])), ((n 4), .inl (k 1, 600, .inl ftape)), ((n 6), .inl (k 0, 99, .inl f_8))]) S hK hP hD hS 2 rfl (vp_in_nI (by omega) (by decide)) (fun _ => rfl) dX11_readSlug_33 (fun f_8 H locs ef_8 hP hD hS => ?_)
  obtain ⟨hif_8, hbf_8⟩ := okW_hi ef_8 hkfresh (a := 61 + 2 * (wn ffresh 6)) rfl (by omega) (by omega)
  refine lv_aload_n hx hb dX11_readSlug_34 rfl (lv_at hl 1 rfl) ?_
  refine x_get S hK hP 0 rfl cfX11 14 lkX11_31 (by decide) rfl dX11_readSlug_35 ?_
  refine lv_iload_n hx hb dX11_readSlug_38 rfl (lv_at hl 0 rfl) ?_
  refine lv_iconst (v := 1) hx hb dX11_readSlug_39 (by decide) ?_
  refine lv_iadd hx hb dX11_readSlug_40 ?_
  refine x_is (nI (61 + 2 * (wn ffresh 6) + 1)) (ni_add rfl (by decide)) ?_
  refine lv_aload_n hx hb dX11_readSlug_41 rfl (lv_at hl 1 rfl) ?_
  refine x_ldcS S hZ lsX11_199 dX11_readSlug_42 ?_
  refine lv_iconst (v := 0) hx hb dX11_readSlug_44 (by decide) ?_
  refine lv_bipush (v := 15) hx hb dX11_readSlug_45 (by decide) ?_
  refine x_muVi (wr := [((n 6), .inl (k 0, 99, .inl f_8))]) (As := [.ref (z 10), .int 0, .int 15]) S hK hP hD hZ hS hA hl mwX11_told lkX11_182 (ctX11_told_n l D k z n mthrown mtaped msize (u_3.2.1 0) (u_3.2.1 1) (u_3.1 0) (u_3.1 1) (u_3.1 2) (u_3.1 3) mmoreMany mlawNow mwetSet moverAll mones mtwos mgone mroundNow msampleFor msampleAll maskWorst moftenAll moftenView moftenOnes ftape 10 0 15 (by omega) (by omega) (by omega) (by omega) (by omega) (by omega) (by omega) (by omega) (by omega)) [0, 1] [2] rfl rfl (by decide) (by decide) (by decide) rfl rfl rfl rfl rfl ⟨Nat.le_of_ble_eq_true rfl, Nat.le_of_ble_eq_true rfl, Nat.le_of_ble_eq_true rfl⟩ dX11_readSlug_47 ⟨Nat.le_of_ble_eq_true rfl, Nat.le_of_ble_eq_true rfl⟩ (fun r_9 u_10 H locs hr_9 hP hD hS => ?_)
  have hP : va_P D vwCl [((n 0), .inr (11, [.int mthrown, .ref (n 1), .ref (n 2), .ref (n 3), .ref (n 4), .int (nI mtaped), .ref (n 5), .int (nI msize), .int (nI (u_10.2.1 0)), .int (nI (u_10.2.1 1)), .int (u_10.1 0), .int (u_10.1 1), .int (u_10.1 2), .int (u_10.1 3), .ref (n 6), .ref (n 7), .ref (n 8), .ref (n 9), .ref (n 10), .ref (n 11), .ref (n 12), .int (nI mmoreMany), .int mlawNow, .int mwetSet, .int moverAll, .ref (n 13), .ref (n 14), .ref (n 15), .int mones, .int mtwos, .int mgone, .ref (n 16), .ref (n 17), .int mroundNow, .ref (n 18), .long msampleFor, .long msampleAll, .ref (n 19), .int maskWorst, .long moftenAll, .long moftenView, .long moftenOnes, .ref (n 20), .ref (n 21), .ref (n 22), .ref (n 23)])), ((n 4), .inl (k 1, 600, .inl ftape)), ((n 6), .inl (k 0, 99, .inl f_8))] H := hP.sub [1, 2, 0] rfl
  have hD : va_D A [((n 0), .inr (11, [.int mthrown, .ref (n 1), .ref (n 2), .ref (n 3), .ref (n 4), .int (nI mtaped), .ref (n 5), .int (nI msize), .int (nI (u_10.2.1 0)), .int (nI (u_10.2.1 1)), .int (u_10.1 0), .int (u_10.1 1), .int (u_10.1 2), .int (u_10.1 3), .ref (n 6), .ref (n 7), .ref (n 8), .ref (n 9), .ref (n 10), .ref (n 11), .ref (n 12), .int (nI mmoreMany), .int mlawNow, .int mwetSet, .int moverAll, .ref (n 13), .ref (n 14), .ref (n 15), .int mones, .int mtwos, .int mgone, .ref (n 16), .ref (n 17), .int mroundNow, .ref (n 18), .long msampleFor, .long msampleAll, .ref (n 19), .int maskWorst, .long moftenAll, .long moftenView, .long moftenOnes, .ref (n 20), .ref (n 21), .ref (n 22), .ref (n 23)])), ((n 4), .inl (k 1, 600, .inl ftape)), ((n 6), .inl (k 0, 99, .inl f_8))] := hD.sub [1, 2, 0] (by decide) rfl
  obtain ⟨⟨n_11, rfl, hn_11⟩, hg_12, hg_13, hg_14, hg_15⟩ := hr_9
  refine x_iast (ws' := fun f_16 => [((n 0), .inr (11, [.int mthrown, .ref (n 1), .ref (n 2), .ref (n 3), .ref (n 4), .int (nI mtaped), .ref (n 5), .int (nI msize), .int (nI (u_10.2.1 0)), .int (nI (u_10.2.1 1)), .int (u_10.1 0), .int (u_10.1 1), .int (u_10.1 2), .int (u_10.1 3), .ref (n 6), .ref (n 7), .ref (n 8), .ref (n 9), .ref (n 10), .ref (n 11), .ref (n 12), .int (nI mmoreMany), .int mlawNow, .int mwetSet, .int moverAll, .ref (n 13), .ref (n 14), .ref (n 15), .int mones, .int mtwos, .int mgone, .ref (n 16), .ref (n 17), .int mroundNow, .ref (n 18), .long msampleFor, .long msampleAll, .ref (n 19), .int maskWorst, .long moftenAll, .long moftenView, .long moftenOnes, .ref (n 20), .ref (n 21), .ref (n 22), .ref (n 23)])), ((n 4), .inl (k 1, 600, .inl ftape)), ((n 6), .inl (k 0, 99, .inl f_16))]) S hK hP hD hS 2 rfl (vp_in_nI (by omega) (by decide)) (fun _ => rfl) dX11_readSlug_50 (fun f_16 H locs ef_16 hP hD hS => ?_)
  obtain ⟨hif_16, hbf_16⟩ := okW_hi ef_16 hif_8 (a := 61 + 2 * (wn ffresh 6) + 1) rfl (by omega) (by omega)
  refine lv_aload_n hx hb dX11_readSlug_51 rfl (lv_at hl 1 rfl) ?_
  refine x_get S hK hP 0 rfl cfX11 14 lkX11_31 (by decide) rfl dX11_readSlug_52 ?_
  refine lv_bipush (v := 6) hx hb dX11_readSlug_55 (by decide) ?_
  refine lv_dup2_11 hx hb dX11_readSlug_57 rfl rfl ?_
  refine x_iald S hK hP 2 rfl (vp_lit (by decide)) dX11_readSlug_58 ?_
  refine x_is (nI (wn f_16 6)) ((cl_at (f := f_16) (a := 6) (by decide) (by omega)).trans (okW_at hif_16 (i := 6) (by omega))) ?_
  refine lv_iconst (v := 1) hx hb dX11_readSlug_59 (by decide) ?_
  refine lv_iadd hx hb dX11_readSlug_60 ?_
  refine x_is (nI (wn f_16 6 + 1)) (ni_add rfl (by decide)) ?_
  refine x_iast (ws' := fun f_17 => [((n 0), .inr (11, [.int mthrown, .ref (n 1), .ref (n 2), .ref (n 3), .ref (n 4), .int (nI mtaped), .ref (n 5), .int (nI msize), .int (nI (u_10.2.1 0)), .int (nI (u_10.2.1 1)), .int (u_10.1 0), .int (u_10.1 1), .int (u_10.1 2), .int (u_10.1 3), .ref (n 6), .ref (n 7), .ref (n 8), .ref (n 9), .ref (n 10), .ref (n 11), .ref (n 12), .int (nI mmoreMany), .int mlawNow, .int mwetSet, .int moverAll, .ref (n 13), .ref (n 14), .ref (n 15), .int mones, .int mtwos, .int mgone, .ref (n 16), .ref (n 17), .int mroundNow, .ref (n 18), .long msampleFor, .long msampleAll, .ref (n 19), .int maskWorst, .long moftenAll, .long moftenView, .long moftenOnes, .ref (n 20), .ref (n 21), .ref (n 22), .ref (n 23)])), ((n 4), .inl (k 1, 600, .inl ftape)), ((n 6), .inl (k 0, 99, .inl f_17))]) S hK hP hD hS 2 rfl (vp_lit (by decide)) (fun _ => rfl) dX11_readSlug_61 (fun f_17 H locs ef_17 hP hD hS => ?_)
  obtain ⟨hif_17, hbf_17⟩ := okW_s6 ef_17 hif_16 (by decide) (q := wn f_16 6 + 1) rfl (by omega)
  exact x_retv S hr hlk hQ hS ((fun i => ([(u_10.1 0), (u_10.1 1), (u_10.1 2), (u_10.1 3)] : List (Int32)).getD i 0), (fun i => ([u_10.2.1 0, u_10.2.1 1] : List (Nat)).getD i 0), (fun i => ([f_17] : List (Nat → Int32)).getD i (fun _ => 0)), (fun i => ([] : List (Nat → Int64)).getD i (fun _ => 0)), (fun i => ([] : List (Int64)).getD i 0)) ⟨(show u_10.2.1 0 ≤ 600 by omega), (show u_10.2.1 1 ≤ 600 by omega), hif_17, (show mfrom ≤ u_10.2.1 1 ∧ u_10.2.1 1 ≤ u_10.2.1 0 by omega), (fun hz => (show mfaultKind = 0 ∧ mfrom < u_10.2.1 1 by have k_18 := hg_15 hz; have k_19 := hg_7 k_18.1; exact ⟨k_19.1, by omega⟩))⟩ (x_B hP hD) dX11_readSlug_62

set_option maxHeartbeats 4000000 in
set_option maxRecDepth 100000 in
theorem ctX11_isFull (l : Launch) (D : va_G) (k : Nat → ClassId) (z : Nat → Nat) (n : Nat → Nat) (mthrown : Int32) (mtaped : Nat) (msize : Nat) (mat : Nat) (mfrom : Nat) (mtoken : Int32) (mvalue : Int32) (mfaultKind : Int32) (mfaultPlace : Int32) (mmoreMany : Nat) (mlawNow : Int32) (mwetSet : Int32) (moverAll : Int32) (mones : Int32) (mtwos : Int32) (mgone : Int32) (mroundNow : Int32) (msampleFor : Int64) (msampleAll : Int64) (maskWorst : Int32) (moftenAll : Int64) (moftenView : Int64) (moftenOnes : Int64) (ftape : Nat → Int32) (ffresh : Nat → Int32) (hmtaped : mtaped ≤ 600) (hmsize : msize ≤ 600) (hmat : mat ≤ 600) (hmfrom : mfrom ≤ 600) (hmmoreMany : mmoreMany ≤ 14) (hkfresh : okW ffresh) : RO l yX11_isFull cX11_isFull 1 (some .boolean) 5 D k z [.ref (n 0)] [((n 0), .inr (11, [.int mthrown, .ref (n 1), .ref (n 2), .ref (n 3), .ref (n 4), .int (nI mtaped), .ref (n 5), .int (nI msize), .int (nI mat), .int (nI mfrom), .int mtoken, .int mvalue, .int mfaultKind, .int mfaultPlace, .ref (n 6), .ref (n 7), .ref (n 8), .ref (n 9), .ref (n 10), .ref (n 11), .ref (n 12), .int (nI mmoreMany), .int mlawNow, .int mwetSet, .int moverAll, .ref (n 13), .ref (n 14), .ref (n 15), .int mones, .int mtwos, .int mgone, .ref (n 16), .ref (n 17), .int mroundNow, .ref (n 18), .long msampleFor, .long msampleAll, .ref (n 19), .int maskWorst, .long moftenAll, .long moftenView, .long moftenOnes, .ref (n 20), .ref (n 21), .ref (n 22), .ref (n 23)])), ((n 4), .inl (k 1, 600, .inl ftape)), ((n 6), .inl (k 0, 99, .inl ffresh))] (Qi (fun r : Int32 => (¬ r = 0 ∨ ((isW mfaultKind mtoken mat mfrom ftape 4 → wn ffresh 3 < 4) ∧ (isW mfaultKind mtoken mat mfrom ftape 7 → wn ffresh 5 < 8) ∧ (isW mfaultKind mtoken mat mfrom ftape 8 → wn ffresh 6 < 4))) ∧ (r = 0 ∨ r = 1))) := by
  refine RO.of (by decide) (Nat.le_of_ble_eq_true rfl) ?_
  intro p e s m below meth c ls A B args Q S hr hlk hQ hK hP hDW hZ hAB hBA hA hS hl
  have hx := S.1
  have hb := S.2.1
  have hl : lv_has ls 1 [(0, .ref (n 0))] := hl
  have hbffresh := okW_bd hkfresh
  refine lv_aload_n hx hb dX11_isFull_0 rfl (lv_at hl 0 rfl) ?_
  refine x_ldcS S hZ lsX11_200 dX11_isFull_1 ?_
  refine x_roVi (As := [.ref (z 4)]) S hK hP hDW hZ hAB hBA hS hA hl mwX11_is lkX11_158 (ctX11_is l D k z n mthrown mtaped msize mat mfrom mtoken mvalue mfaultKind mfaultPlace mmoreMany mlawNow mwetSet moverAll mones mtwos mgone mroundNow msampleFor msampleAll maskWorst moftenAll moftenView moftenOnes ftape 4 (by omega) (by omega) (by omega) (by omega) (by omega) (by omega)) [0, 1] rfl (by decide) rfl rfl rfl rfl rfl ⟨Nat.le_of_ble_eq_true rfl, Nat.le_of_ble_eq_true rfl, Nat.le_of_ble_eq_true rfl⟩ dX11_isFull_3 ⟨Nat.le_of_ble_eq_true rfl, Nat.le_of_ble_eq_true rfl⟩ (fun r_1 H locs hr_1 hP hS => ?_)
  obtain rfl := hr_1
  refine lv_if_eq (tgt := 19) hx hb dX11_isFull_6 (by decide) (fun c_3 => ?_) (fun c_3 => ?_)
  · skip
    have c_3 : ¬ (isW mfaultKind mtoken mat mfrom ftape 4) := isB_0.mp c_3
    refine lv_aload_n hx hb dX11_isFull_19 rfl (lv_at hl 0 rfl) ?_
    refine x_ldcS S hZ lsX11_202 dX11_isFull_20 ?_
    refine x_roVi (As := [.ref (z 7)]) S hK hP hDW hZ hAB hBA hS hA hl mwX11_is lkX11_158 (ctX11_is l D k z n mthrown mtaped msize mat mfrom mtoken mvalue mfaultKind mfaultPlace mmoreMany mlawNow mwetSet moverAll mones mtwos mgone mroundNow msampleFor msampleAll maskWorst moftenAll moftenView moftenOnes ftape 7 (by omega) (by omega) (by omega) (by omega) (by omega) (by omega)) [0, 1] rfl (by decide) rfl rfl rfl rfl rfl ⟨Nat.le_of_ble_eq_true rfl, Nat.le_of_ble_eq_true rfl, Nat.le_of_ble_eq_true rfl⟩ dX11_isFull_22 ⟨Nat.le_of_ble_eq_true rfl, Nat.le_of_ble_eq_true rfl⟩ (fun r_4 H locs hr_4 hP hS => ?_)
    obtain rfl := hr_4
    refine lv_if_eq (tgt := 39) hx hb dX11_isFull_25 (by decide) (fun c_6 => ?_) (fun c_6 => ?_)
    · skip
      have c_6 : ¬ (isW mfaultKind mtoken mat mfrom ftape 7) := isB_0.mp c_6
      refine lv_aload_n hx hb dX11_isFull_39 rfl (lv_at hl 0 rfl) ?_
      refine x_ldcS S hZ lsX11_204 dX11_isFull_40 ?_
      refine x_roVi (As := [.ref (z 8)]) S hK hP hDW hZ hAB hBA hS hA hl mwX11_is lkX11_158 (ctX11_is l D k z n mthrown mtaped msize mat mfrom mtoken mvalue mfaultKind mfaultPlace mmoreMany mlawNow mwetSet moverAll mones mtwos mgone mroundNow msampleFor msampleAll maskWorst moftenAll moftenView moftenOnes ftape 8 (by omega) (by omega) (by omega) (by omega) (by omega) (by omega)) [0, 1] rfl (by decide) rfl rfl rfl rfl rfl ⟨Nat.le_of_ble_eq_true rfl, Nat.le_of_ble_eq_true rfl, Nat.le_of_ble_eq_true rfl⟩ dX11_isFull_42 ⟨Nat.le_of_ble_eq_true rfl, Nat.le_of_ble_eq_true rfl⟩ (fun r_7 H locs hr_7 hP hS => ?_)
      obtain rfl := hr_7
      refine lv_if_eq (tgt := 63) hx hb dX11_isFull_45 (by decide) (fun c_9 => ?_) (fun c_9 => ?_)
      · skip
        have c_9 : ¬ (isW mfaultKind mtoken mat mfrom ftape 8) := isB_0.mp c_9
        refine lv_iconst (v := 0) hx hb dX11_isFull_63 (by decide) ?_
        exact x_retz S hr hlk hQ hS rfl () ⟨(Or.inr ⟨fun h => absurd h c_3, fun h => absurd h c_6, fun h => absurd h c_9⟩), (Or.inl rfl)⟩ x_T dX11_isFull_64
      · skip
        have c_9 : isW mfaultKind mtoken mat mfrom ftape 8 := isB_1.mp c_9
        refine lv_aload_n hx hb dX11_isFull_48 rfl (lv_at hl 0 rfl) ?_
        refine x_get S hK hP 0 rfl cfX11 14 lkX11_31 (by decide) rfl dX11_isFull_49 ?_
        refine lv_bipush (v := 6) hx hb dX11_isFull_52 (by decide) ?_
        refine x_iald S hK hP 2 rfl (vp_lit (by decide)) dX11_isFull_54 ?_
        refine x_is (nI (wn ffresh 6)) ((cl_at (f := ffresh) (a := 6) (by decide) (by omega)).trans (okW_at hkfresh (i := 6) (by omega))) ?_
        refine lv_iconst (v := 4) hx hb dX11_isFull_55 (by decide) ?_
        refine lv_icmp_ne (tgt := 63) hx hb dX11_isFull_56 (by decide) (fun c_10 => ?_) (fun c_10 => ?_)
        · skip
          have c_10 : ¬ wn ffresh 6 = 4 := fun q => c_10 ((ni_eq rfl (by decide) (by omega) (by omega)).mpr q)
          refine lv_iconst (v := 0) hx hb dX11_isFull_63 (by decide) ?_
          exact x_retz S hr hlk hQ hS rfl () ⟨(Or.inr ⟨fun h => absurd h c_3, fun h => absurd h c_6, fun _ => by omega⟩), (Or.inl rfl)⟩ x_T dX11_isFull_64
        · skip
          have c_10 : wn ffresh 6 = 4 := (ni_eq rfl (by decide) (by omega) (by omega)).mp c_10
          refine lv_iconst (v := 1) hx hb dX11_isFull_59 (by decide) ?_
          refine lv_goto (tgt := 64) hx hb dX11_isFull_60 (by decide) ?_
          exact x_retz S hr hlk hQ hS rfl () ⟨(Or.inl (by decide)), (Or.inr rfl)⟩ x_T dX11_isFull_64
    · skip
      have c_6 : isW mfaultKind mtoken mat mfrom ftape 7 := isB_1.mp c_6
      refine lv_aload_n hx hb dX11_isFull_28 rfl (lv_at hl 0 rfl) ?_
      refine x_get S hK hP 0 rfl cfX11 14 lkX11_31 (by decide) rfl dX11_isFull_29 ?_
      refine lv_iconst (v := 5) hx hb dX11_isFull_32 (by decide) ?_
      refine x_iald S hK hP 2 rfl (vp_lit (by decide)) dX11_isFull_33 ?_
      refine x_is (nI (wn ffresh 5)) ((cl_at (f := ffresh) (a := 5) (by decide) (by omega)).trans (okW_at hkfresh (i := 5) (by omega))) ?_
      refine lv_bipush (v := 8) hx hb dX11_isFull_34 (by decide) ?_
      refine lv_icmp_eq (tgt := 59) hx hb dX11_isFull_36 (by decide) (fun c_11 => ?_) (fun c_11 => ?_)
      · skip
        have c_11 : wn ffresh 5 = 8 := (ni_eq rfl (by decide) (by omega) (by omega)).mp c_11
        refine lv_iconst (v := 1) hx hb dX11_isFull_59 (by decide) ?_
        refine lv_goto (tgt := 64) hx hb dX11_isFull_60 (by decide) ?_
        exact x_retz S hr hlk hQ hS rfl () ⟨(Or.inl (by decide)), (Or.inr rfl)⟩ x_T dX11_isFull_64
      · skip
        have c_11 : ¬ wn ffresh 5 = 8 := fun q => c_11 ((ni_eq rfl (by decide) (by omega) (by omega)).mpr q)
        refine lv_aload_n hx hb dX11_isFull_39 rfl (lv_at hl 0 rfl) ?_
        refine x_ldcS S hZ lsX11_204 dX11_isFull_40 ?_
        refine x_roVi (As := [.ref (z 8)]) S hK hP hDW hZ hAB hBA hS hA hl mwX11_is lkX11_158 (ctX11_is l D k z n mthrown mtaped msize mat mfrom mtoken mvalue mfaultKind mfaultPlace mmoreMany mlawNow mwetSet moverAll mones mtwos mgone mroundNow msampleFor msampleAll maskWorst moftenAll moftenView moftenOnes ftape 8 (by omega) (by omega) (by omega) (by omega) (by omega) (by omega)) [0, 1] rfl (by decide) rfl rfl rfl rfl rfl ⟨Nat.le_of_ble_eq_true rfl, Nat.le_of_ble_eq_true rfl, Nat.le_of_ble_eq_true rfl⟩ dX11_isFull_42 ⟨Nat.le_of_ble_eq_true rfl, Nat.le_of_ble_eq_true rfl⟩ (fun r_12 H locs hr_12 hP hS => ?_)
        obtain rfl := hr_12
        refine lv_if_eq (tgt := 63) hx hb dX11_isFull_45 (by decide) (fun c_14 => ?_) (fun c_14 => ?_)
        · skip
          have c_14 : ¬ (isW mfaultKind mtoken mat mfrom ftape 8) := isB_0.mp c_14
          refine lv_iconst (v := 0) hx hb dX11_isFull_63 (by decide) ?_
          exact x_retz S hr hlk hQ hS rfl () ⟨(Or.inr ⟨fun h => absurd h c_3, fun _ => by omega, fun h => absurd h c_14⟩), (Or.inl rfl)⟩ x_T dX11_isFull_64
        · skip
          have c_14 : isW mfaultKind mtoken mat mfrom ftape 8 := isB_1.mp c_14
          refine lv_aload_n hx hb dX11_isFull_48 rfl (lv_at hl 0 rfl) ?_
          refine x_get S hK hP 0 rfl cfX11 14 lkX11_31 (by decide) rfl dX11_isFull_49 ?_
          refine lv_bipush (v := 6) hx hb dX11_isFull_52 (by decide) ?_
          refine x_iald S hK hP 2 rfl (vp_lit (by decide)) dX11_isFull_54 ?_
          refine x_is (nI (wn ffresh 6)) ((cl_at (f := ffresh) (a := 6) (by decide) (by omega)).trans (okW_at hkfresh (i := 6) (by omega))) ?_
          refine lv_iconst (v := 4) hx hb dX11_isFull_55 (by decide) ?_
          refine lv_icmp_ne (tgt := 63) hx hb dX11_isFull_56 (by decide) (fun c_15 => ?_) (fun c_15 => ?_)
          · skip
            have c_15 : ¬ wn ffresh 6 = 4 := fun q => c_15 ((ni_eq rfl (by decide) (by omega) (by omega)).mpr q)
            refine lv_iconst (v := 0) hx hb dX11_isFull_63 (by decide) ?_
            exact x_retz S hr hlk hQ hS rfl () ⟨(Or.inr ⟨fun h => absurd h c_3, fun _ => by omega, fun _ => by omega⟩), (Or.inl rfl)⟩ x_T dX11_isFull_64
          · skip
            have c_15 : wn ffresh 6 = 4 := (ni_eq rfl (by decide) (by omega) (by omega)).mp c_15
            refine lv_iconst (v := 1) hx hb dX11_isFull_59 (by decide) ?_
            refine lv_goto (tgt := 64) hx hb dX11_isFull_60 (by decide) ?_
            exact x_retz S hr hlk hQ hS rfl () ⟨(Or.inl (by decide)), (Or.inr rfl)⟩ x_T dX11_isFull_64
  · skip
    have c_3 : isW mfaultKind mtoken mat mfrom ftape 4 := isB_1.mp c_3
    refine lv_aload_n hx hb dX11_isFull_9 rfl (lv_at hl 0 rfl) ?_
    refine x_get S hK hP 0 rfl cfX11 14 lkX11_31 (by decide) rfl dX11_isFull_10 ?_
    refine lv_iconst (v := 3) hx hb dX11_isFull_13 (by decide) ?_
    refine x_iald S hK hP 2 rfl (vp_lit (by decide)) dX11_isFull_14 ?_
    refine x_is (nI (wn ffresh 3)) ((cl_at (f := ffresh) (a := 3) (by decide) (by omega)).trans (okW_at hkfresh (i := 3) (by omega))) ?_
    refine lv_iconst (v := 4) hx hb dX11_isFull_15 (by decide) ?_
    refine lv_icmp_eq (tgt := 59) hx hb dX11_isFull_16 (by decide) (fun c_16 => ?_) (fun c_16 => ?_)
    · skip
      have c_16 : wn ffresh 3 = 4 := (ni_eq rfl (by decide) (by omega) (by omega)).mp c_16
      refine lv_iconst (v := 1) hx hb dX11_isFull_59 (by decide) ?_
      refine lv_goto (tgt := 64) hx hb dX11_isFull_60 (by decide) ?_
      exact x_retz S hr hlk hQ hS rfl () ⟨(Or.inl (by decide)), (Or.inr rfl)⟩ x_T dX11_isFull_64
    · skip
      have c_16 : ¬ wn ffresh 3 = 4 := fun q => c_16 ((ni_eq rfl (by decide) (by omega) (by omega)).mpr q)
      refine lv_aload_n hx hb dX11_isFull_19 rfl (lv_at hl 0 rfl) ?_
      refine x_ldcS S hZ lsX11_202 dX11_isFull_20 ?_
      refine x_roVi (As := [.ref (z 7)]) S hK hP hDW hZ hAB hBA hS hA hl mwX11_is lkX11_158 (ctX11_is l D k z n mthrown mtaped msize mat mfrom mtoken mvalue mfaultKind mfaultPlace mmoreMany mlawNow mwetSet moverAll mones mtwos mgone mroundNow msampleFor msampleAll maskWorst moftenAll moftenView moftenOnes ftape 7 (by omega) (by omega) (by omega) (by omega) (by omega) (by omega)) [0, 1] rfl (by decide) rfl rfl rfl rfl rfl ⟨Nat.le_of_ble_eq_true rfl, Nat.le_of_ble_eq_true rfl, Nat.le_of_ble_eq_true rfl⟩ dX11_isFull_22 ⟨Nat.le_of_ble_eq_true rfl, Nat.le_of_ble_eq_true rfl⟩ (fun r_17 H locs hr_17 hP hS => ?_)
      obtain rfl := hr_17
      refine lv_if_eq (tgt := 39) hx hb dX11_isFull_25 (by decide) (fun c_19 => ?_) (fun c_19 => ?_)
      · skip
        have c_19 : ¬ (isW mfaultKind mtoken mat mfrom ftape 7) := isB_0.mp c_19
        refine lv_aload_n hx hb dX11_isFull_39 rfl (lv_at hl 0 rfl) ?_
        refine x_ldcS S hZ lsX11_204 dX11_isFull_40 ?_
        refine x_roVi (As := [.ref (z 8)]) S hK hP hDW hZ hAB hBA hS hA hl mwX11_is lkX11_158 (ctX11_is l D k z n mthrown mtaped msize mat mfrom mtoken mvalue mfaultKind mfaultPlace mmoreMany mlawNow mwetSet moverAll mones mtwos mgone mroundNow msampleFor msampleAll maskWorst moftenAll moftenView moftenOnes ftape 8 (by omega) (by omega) (by omega) (by omega) (by omega) (by omega)) [0, 1] rfl (by decide) rfl rfl rfl rfl rfl ⟨Nat.le_of_ble_eq_true rfl, Nat.le_of_ble_eq_true rfl, Nat.le_of_ble_eq_true rfl⟩ dX11_isFull_42 ⟨Nat.le_of_ble_eq_true rfl, Nat.le_of_ble_eq_true rfl⟩ (fun r_20 H locs hr_20 hP hS => ?_)
        obtain rfl := hr_20
        refine lv_if_eq (tgt := 63) hx hb dX11_isFull_45 (by decide) (fun c_22 => ?_) (fun c_22 => ?_)
        · skip
          have c_22 : ¬ (isW mfaultKind mtoken mat mfrom ftape 8) := isB_0.mp c_22
          refine lv_iconst (v := 0) hx hb dX11_isFull_63 (by decide) ?_
          exact x_retz S hr hlk hQ hS rfl () ⟨(Or.inr ⟨fun _ => by omega, fun h => absurd h c_19, fun h => absurd h c_22⟩), (Or.inl rfl)⟩ x_T dX11_isFull_64
        · skip
          have c_22 : isW mfaultKind mtoken mat mfrom ftape 8 := isB_1.mp c_22
          refine lv_aload_n hx hb dX11_isFull_48 rfl (lv_at hl 0 rfl) ?_
          refine x_get S hK hP 0 rfl cfX11 14 lkX11_31 (by decide) rfl dX11_isFull_49 ?_
          refine lv_bipush (v := 6) hx hb dX11_isFull_52 (by decide) ?_
          refine x_iald S hK hP 2 rfl (vp_lit (by decide)) dX11_isFull_54 ?_
          refine x_is (nI (wn ffresh 6)) ((cl_at (f := ffresh) (a := 6) (by decide) (by omega)).trans (okW_at hkfresh (i := 6) (by omega))) ?_
          refine lv_iconst (v := 4) hx hb dX11_isFull_55 (by decide) ?_
          refine lv_icmp_ne (tgt := 63) hx hb dX11_isFull_56 (by decide) (fun c_23 => ?_) (fun c_23 => ?_)
          · skip
            have c_23 : ¬ wn ffresh 6 = 4 := fun q => c_23 ((ni_eq rfl (by decide) (by omega) (by omega)).mpr q)
            refine lv_iconst (v := 0) hx hb dX11_isFull_63 (by decide) ?_
            exact x_retz S hr hlk hQ hS rfl () ⟨(Or.inr ⟨fun _ => by omega, fun h => absurd h c_19, fun _ => by omega⟩), (Or.inl rfl)⟩ x_T dX11_isFull_64
          · skip
            have c_23 : wn ffresh 6 = 4 := (ni_eq rfl (by decide) (by omega) (by omega)).mp c_23
            refine lv_iconst (v := 1) hx hb dX11_isFull_59 (by decide) ?_
            refine lv_goto (tgt := 64) hx hb dX11_isFull_60 (by decide) ?_
            exact x_retz S hr hlk hQ hS rfl () ⟨(Or.inl (by decide)), (Or.inr rfl)⟩ x_T dX11_isFull_64
      · skip
        have c_19 : isW mfaultKind mtoken mat mfrom ftape 7 := isB_1.mp c_19
        refine lv_aload_n hx hb dX11_isFull_28 rfl (lv_at hl 0 rfl) ?_
        refine x_get S hK hP 0 rfl cfX11 14 lkX11_31 (by decide) rfl dX11_isFull_29 ?_
        refine lv_iconst (v := 5) hx hb dX11_isFull_32 (by decide) ?_
        refine x_iald S hK hP 2 rfl (vp_lit (by decide)) dX11_isFull_33 ?_
        refine x_is (nI (wn ffresh 5)) ((cl_at (f := ffresh) (a := 5) (by decide) (by omega)).trans (okW_at hkfresh (i := 5) (by omega))) ?_
        refine lv_bipush (v := 8) hx hb dX11_isFull_34 (by decide) ?_
        refine lv_icmp_eq (tgt := 59) hx hb dX11_isFull_36 (by decide) (fun c_24 => ?_) (fun c_24 => ?_)
        · skip
          have c_24 : wn ffresh 5 = 8 := (ni_eq rfl (by decide) (by omega) (by omega)).mp c_24
          refine lv_iconst (v := 1) hx hb dX11_isFull_59 (by decide) ?_
          refine lv_goto (tgt := 64) hx hb dX11_isFull_60 (by decide) ?_
          exact x_retz S hr hlk hQ hS rfl () ⟨(Or.inl (by decide)), (Or.inr rfl)⟩ x_T dX11_isFull_64
        · skip
          have c_24 : ¬ wn ffresh 5 = 8 := fun q => c_24 ((ni_eq rfl (by decide) (by omega) (by omega)).mpr q)
          refine lv_aload_n hx hb dX11_isFull_39 rfl (lv_at hl 0 rfl) ?_
          refine x_ldcS S hZ lsX11_204 dX11_isFull_40 ?_
          refine x_roVi (As := [.ref (z 8)]) S hK hP hDW hZ hAB hBA hS hA hl mwX11_is lkX11_158 (ctX11_is l D k z n mthrown mtaped msize mat mfrom mtoken mvalue mfaultKind mfaultPlace mmoreMany mlawNow mwetSet moverAll mones mtwos mgone mroundNow msampleFor msampleAll maskWorst moftenAll moftenView moftenOnes ftape 8 (by omega) (by omega) (by omega) (by omega) (by omega) (by omega)) [0, 1] rfl (by decide) rfl rfl rfl rfl rfl ⟨Nat.le_of_ble_eq_true rfl, Nat.le_of_ble_eq_true rfl, Nat.le_of_ble_eq_true rfl⟩ dX11_isFull_42 ⟨Nat.le_of_ble_eq_true rfl, Nat.le_of_ble_eq_true rfl⟩ (fun r_25 H locs hr_25 hP hS => ?_)
          obtain rfl := hr_25
          refine lv_if_eq (tgt := 63) hx hb dX11_isFull_45 (by decide) (fun c_27 => ?_) (fun c_27 => ?_)
          · skip
            have c_27 : ¬ (isW mfaultKind mtoken mat mfrom ftape 8) := isB_0.mp c_27
            refine lv_iconst (v := 0) hx hb dX11_isFull_63 (by decide) ?_
            exact x_retz S hr hlk hQ hS rfl () ⟨(Or.inr ⟨fun _ => by omega, fun _ => by omega, fun h => absurd h c_27⟩), (Or.inl rfl)⟩ x_T dX11_isFull_64
          · skip
            have c_27 : isW mfaultKind mtoken mat mfrom ftape 8 := isB_1.mp c_27
            refine lv_aload_n hx hb dX11_isFull_48 rfl (lv_at hl 0 rfl) ?_
            refine x_get S hK hP 0 rfl cfX11 14 lkX11_31 (by decide) rfl dX11_isFull_49 ?_
            refine lv_bipush (v := 6) hx hb dX11_isFull_52 (by decide) ?_
            refine x_iald S hK hP 2 rfl (vp_lit (by decide)) dX11_isFull_54 ?_
            refine x_is (nI (wn ffresh 6)) ((cl_at (f := ffresh) (a := 6) (by decide) (by omega)).trans (okW_at hkfresh (i := 6) (by omega))) ?_
            refine lv_iconst (v := 4) hx hb dX11_isFull_55 (by decide) ?_
            refine lv_icmp_ne (tgt := 63) hx hb dX11_isFull_56 (by decide) (fun c_28 => ?_) (fun c_28 => ?_)
            · skip
              have c_28 : ¬ wn ffresh 6 = 4 := fun q => c_28 ((ni_eq rfl (by decide) (by omega) (by omega)).mpr q)
              refine lv_iconst (v := 0) hx hb dX11_isFull_63 (by decide) ?_
              exact x_retz S hr hlk hQ hS rfl () ⟨(Or.inr ⟨fun _ => by omega, fun _ => by omega, fun _ => by omega⟩), (Or.inl rfl)⟩ x_T dX11_isFull_64
            · skip
              have c_28 : wn ffresh 6 = 4 := (ni_eq rfl (by decide) (by omega) (by omega)).mp c_28
              refine lv_iconst (v := 1) hx hb dX11_isFull_59 (by decide) ?_
              refine lv_goto (tgt := 64) hx hb dX11_isFull_60 (by decide) ?_
              exact x_retz S hr hlk hQ hS rfl () ⟨(Or.inl (by decide)), (Or.inr rfl)⟩ x_T dX11_isFull_64

set_option maxHeartbeats 4000000 in
set_option maxRecDepth 100000 in
theorem ctX11_readNext (l : Launch) (D : va_G) (k : Nat → ClassId) (z : Nat → Nat) (n : Nat → Nat) (mthrown : Int32) (mtaped : Nat) (msize : Nat) (mat : Nat) (mfrom : Nat) (mtoken : Int32) (mvalue : Int32) (mfaultKind : Int32) (mfaultPlace : Int32) (mmoreMany : Nat) (mlawNow : Int32) (mwetSet : Int32) (moverAll : Int32) (mones : Int32) (mtwos : Int32) (mgone : Int32) (mroundNow : Int32) (msampleFor : Int64) (msampleAll : Int64) (maskWorst : Int32) (moftenAll : Int64) (moftenView : Int64) (moftenOnes : Int64) (ftape : Nat → Int32) (ffresh : Nat → Int32) (hmtaped : mtaped ≤ 600) (hmsize : msize ≤ 600) (hmat : mat ≤ 600) (hmfrom : mfrom ≤ 600) (hmmoreMany : mmoreMany ≤ 14) (hkfresh : okW ffresh) (hfa : mfrom ≤ mat) : MU l yX11_readNext cX11_readNext 2 none 10 D k z [.ref (n 0)] [((n 0), .inr (11, [.int mthrown, .ref (n 1), .ref (n 2), .ref (n 3), .ref (n 4), .int (nI mtaped), .ref (n 5), .int (nI msize), .int (nI mat), .int (nI mfrom), .int mtoken, .int mvalue, .int mfaultKind, .int mfaultPlace, .ref (n 6), .ref (n 7), .ref (n 8), .ref (n 9), .ref (n 10), .ref (n 11), .ref (n 12), .int (nI mmoreMany), .int mlawNow, .int mwetSet, .int moverAll, .ref (n 13), .ref (n 14), .ref (n 15), .int mones, .int mtwos, .int mgone, .ref (n 16), .ref (n 17), .int mroundNow, .ref (n 18), .long msampleFor, .long msampleAll, .ref (n 19), .int maskWorst, .long moftenAll, .long moftenView, .long moftenOnes, .ref (n 20), .ref (n 21), .ref (n 22), .ref (n 23)])), ((n 4), .inl (k 1, 600, .inl ftape)), ((n 6), .inl (k 0, 99, .inl ffresh))] 0 0 (Uv D (fun u : (Nat → Int32) × (Nat → Nat) × (Nat → Nat → Int32) × (Nat → Nat → Int64) × (Nat → Int64) => (u.2.1 0 ≤ 600) ∧ (u.2.1 1 ≤ 600) ∧ (okW (u.2.2.1 0)) ∧ (mfrom ≤ (u.2.1 1) ∧ (u.2.1 1) ≤ (u.2.1 0)) ∧ ((u.1 2) = 0 → mfaultKind = 0 ∧ mfrom < (u.2.1 1))) (fun u : (Nat → Int32) × (Nat → Nat) × (Nat → Nat → Int32) × (Nat → Nat → Int64) × (Nat → Int64) => [((n 0), .inr (11, [.int mthrown, .ref (n 1), .ref (n 2), .ref (n 3), .ref (n 4), .int (nI mtaped), .ref (n 5), .int (nI msize), .int (nI (u.2.1 0)), .int (nI (u.2.1 1)), .int (u.1 0), .int (u.1 1), .int (u.1 2), .int (u.1 3), .ref (n 6), .ref (n 7), .ref (n 8), .ref (n 9), .ref (n 10), .ref (n 11), .ref (n 12), .int (nI mmoreMany), .int mlawNow, .int mwetSet, .int moverAll, .ref (n 13), .ref (n 14), .ref (n 15), .int mones, .int mtwos, .int mgone, .ref (n 16), .ref (n 17), .int mroundNow, .ref (n 18), .long msampleFor, .long msampleAll, .ref (n 19), .int maskWorst, .long moftenAll, .long moftenView, .long moftenOnes, .ref (n 20), .ref (n 21), .ref (n 22), .ref (n 23)])), ((n 4), .inl (k 1, 600, .inl ftape)), ((n 6), .inl (k 0, 99, .inl (u.2.2.1 0)))])) := by
  refine MU.of (by decide) (Nat.le_of_ble_eq_true rfl) ?_
  intro p e s m below meth c ls A args Q S hr hlk hnm hQ hK hP hD hZ hA hS hl
  have hx := S.1
  have hb := S.2.1
  have hl : lv_has ls 2 [(0, .ref (n 0))] := hl
  have hbffresh := okW_bd hkfresh
  refine lv_aload_n hx hb dX11_readNext_0 rfl (lv_at hl 0 rfl) ?_
  refine x_ldcS S hZ lsX11_200 dX11_readNext_1 ?_
  refine x_roVi (As := [.ref (z 4)]) S hK hP hD hZ (fun _ h => h) hA hS hA hl mwX11_is lkX11_158 (ctX11_is l D k z n mthrown mtaped msize mat mfrom mtoken mvalue mfaultKind mfaultPlace mmoreMany mlawNow mwetSet moverAll mones mtwos mgone mroundNow msampleFor msampleAll maskWorst moftenAll moftenView moftenOnes ftape 4 (by omega) (by omega) (by omega) (by omega) (by omega) (by omega)) [0, 1] rfl (by decide) rfl rfl rfl rfl rfl ⟨Nat.le_of_ble_eq_true rfl, Nat.le_of_ble_eq_true rfl, Nat.le_of_ble_eq_true rfl⟩ dX11_readNext_3 ⟨Nat.le_of_ble_eq_true rfl, Nat.le_of_ble_eq_true rfl⟩ (fun r_1 H locs hr_1 hP hS => ?_)
  obtain rfl := hr_1
  refine lv_if_ne (tgt := 27) hx hb dX11_readNext_6 (by decide) (fun c_3 => ?_) (fun c_3 => ?_)
  · skip
    have c_3 : isW mfaultKind mtoken mat mfrom ftape 4 := isB_1.mp c_3
    refine lv_iconst (v := 1) hx hb dX11_readNext_27 (by decide) ?_
    refine lv_goto (tgt := 32) hx hb dX11_readNext_28 (by decide) ?_
    refine lv_istore_n (lv' := [(1, .int 1), (0, .ref (n 0))]) hx hb dX11_readNext_32 rfl hl (by decide) rfl (fun ls hl => ?_)
    refine lv_iload_n hx hb dX11_readNext_33 rfl (lv_at hl 0 rfl) ?_
    refine lv_if_eq (tgt := 63) hx hb dX11_readNext_34 (by decide) (fun c_4 => absurd c_4 (by decide)) (fun c_4 => ?_)
    refine lv_aload_n hx hb dX11_readNext_37 rfl (lv_at hl 1 rfl) ?_
    refine x_ldcS S hZ lsX11_200 dX11_readNext_38 ?_
    refine x_roVi (As := [.ref (z 4)]) S hK hP hD hZ (fun _ h => h) hA hS hA hl mwX11_is lkX11_158 (ctX11_is l D k z n mthrown mtaped msize mat mfrom mtoken mvalue mfaultKind mfaultPlace mmoreMany mlawNow mwetSet moverAll mones mtwos mgone mroundNow msampleFor msampleAll maskWorst moftenAll moftenView moftenOnes ftape 4 (by omega) (by omega) (by omega) (by omega) (by omega) (by omega)) [0, 1] rfl (by decide) rfl rfl rfl rfl rfl ⟨Nat.le_of_ble_eq_true rfl, Nat.le_of_ble_eq_true rfl, Nat.le_of_ble_eq_true rfl⟩ dX11_readNext_40 ⟨Nat.le_of_ble_eq_true rfl, Nat.le_of_ble_eq_true rfl⟩ (fun r_5 H locs hr_5 hP hS => ?_)
    obtain rfl := hr_5
    refine lv_if_eq (tgt := 68) hx hb dX11_readNext_43 (by decide) (fun c_7 => ?_) (fun c_7 => ?_)
    · skip
      have c_7 : ¬ (isW mfaultKind mtoken mat mfrom ftape 4) := isB_0.mp c_7
      exact absurd c_3 c_7
    · skip
      have c_7 : isW mfaultKind mtoken mat mfrom ftape 4 := isB_1.mp c_7
      refine lv_aload_n hx hb dX11_readNext_46 rfl (lv_at hl 1 rfl) ?_
      refine x_get S hK hP 0 rfl cfX11 14 lkX11_31 (by decide) rfl dX11_readNext_47 ?_
      refine lv_iconst (v := 5) hx hb dX11_readNext_50 (by decide) ?_
      refine x_iald S hK hP 2 rfl (vp_lit (by decide)) dX11_readNext_51 ?_
      refine x_is (nI (wn ffresh 5)) ((cl_at (f := ffresh) (a := 5) (by decide) (by omega)).trans (okW_at hkfresh (i := 5) (by omega))) ?_
      refine lv_aload_n hx hb dX11_readNext_52 rfl (lv_at hl 1 rfl) ?_
      refine x_get S hK hP 0 rfl cfX11 14 lkX11_31 (by decide) rfl dX11_readNext_53 ?_
      refine lv_bipush (v := 6) hx hb dX11_readNext_56 (by decide) ?_
      refine x_iald S hK hP 2 rfl (vp_lit (by decide)) dX11_readNext_58 ?_
      refine x_is (nI (wn ffresh 6)) ((cl_at (f := ffresh) (a := 6) (by decide) (by omega)).trans (okW_at hkfresh (i := 6) (by omega))) ?_
      refine lv_iadd hx hb dX11_readNext_59 ?_
      refine x_is (nI (wn ffresh 5 + wn ffresh 6)) (ni_add rfl rfl) ?_
      refine lv_if_le (tgt := 68) hx hb dX11_readNext_60 (by decide) (fun c_8 => ?_) (fun c_8 => ?_)
      · skip
        have c_8 : wn ffresh 5 + wn ffresh 6 ≤ 0 := (ni_le rfl (by decide) (by omega) (by omega)).mp c_8
        refine lv_aload_n hx hb dX11_readNext_68 rfl (lv_at hl 1 rfl) ?_
        refine x_roVi (As := []) S hK hP hD hZ (fun _ h => h) hA hS hA hl mwX11_isFull lkX11_206 (ctX11_isFull l D k z n mthrown mtaped msize mat mfrom mtoken mvalue mfaultKind mfaultPlace mmoreMany mlawNow mwetSet moverAll mones mtwos mgone mroundNow msampleFor msampleAll maskWorst moftenAll moftenView moftenOnes ftape ffresh (by omega) (by omega) (by omega) (by omega) (by omega) (hkfresh)) [0, 1, 2] rfl (by decide) rfl rfl rfl rfl rfl ⟨Nat.le_of_ble_eq_true rfl, Nat.le_of_ble_eq_true rfl, Nat.le_of_ble_eq_true rfl⟩ dX11_readNext_69 ⟨Nat.le_of_ble_eq_true rfl, Nat.le_of_ble_eq_true rfl⟩ (fun r_9 H locs hr_9 hP hS => ?_)
        obtain ⟨hp_11, hz_12⟩ := hr_9
        refine lv_if_eq (tgt := 80) hx hb dX11_readNext_72 (by decide) (fun c_13 => ?_) (fun c_13 => ?_)
        · skip
          refine lv_aload_n hx hb dX11_readNext_80 rfl (lv_at hl 1 rfl) ?_
          refine x_roVi (As := []) S hK hP hD hZ (fun _ h => h) hA hS hA hl mwX11_good lkX11_146 (ctX11_good l D k z n mthrown mtaped msize mat mfrom mtoken mvalue mfaultKind mfaultPlace mmoreMany mlawNow mwetSet moverAll mones mtwos mgone mroundNow msampleFor msampleAll maskWorst moftenAll moftenView moftenOnes (by omega) (by omega) (by omega) (by omega) (by omega)) [0] rfl (by decide) rfl rfl rfl rfl rfl ⟨Nat.le_of_ble_eq_true rfl, Nat.le_of_ble_eq_true rfl, Nat.le_of_ble_eq_true rfl⟩ dX11_readNext_81 ⟨Nat.le_of_ble_eq_true rfl, Nat.le_of_ble_eq_true rfl⟩ (fun r_14 H locs hr_14 hP hS => ?_)
          obtain rfl := hr_14
          refine lv_if_ne (tgt := 88) hx hb dX11_readNext_84 (by decide) (fun c_16 => ?_) (fun c_16 => ?_)
          · skip
            have c_16 : mfaultKind = 0 := bo_1.mp c_16
            refine lv_aload_n hx hb dX11_readNext_88 rfl (lv_at hl 1 rfl) ?_
            refine x_ldcS S hZ lsX11_200 dX11_readNext_89 ?_
            refine x_muVi (wr := [((n 6), .inl (k 0, 99, .inl ffresh))]) (As := [.ref (z 4)]) S hK hP hD hZ hS hA hl mwX11_takes lkX11_165 (ctX11_takes l D k z n mthrown mtaped msize mat mfrom mtoken mvalue mfaultKind mfaultPlace mmoreMany mlawNow mwetSet moverAll mones mtwos mgone mroundNow msampleFor msampleAll maskWorst moftenAll moftenView moftenOnes ftape 4 (by omega) (by omega) (by omega) (by omega) (by omega) (by omega) (by omega)) [0, 1] [2] rfl rfl (by decide) (by decide) (by decide) rfl rfl rfl rfl rfl ⟨Nat.le_of_ble_eq_true rfl, Nat.le_of_ble_eq_true rfl, Nat.le_of_ble_eq_true rfl⟩ dX11_readNext_91 ⟨Nat.le_of_ble_eq_true rfl, Nat.le_of_ble_eq_true rfl⟩ (fun r_17 u_18 H locs hr_17 hP hD hS => ?_)
            have hP : va_P D vwCl [((n 0), .inr (11, [.int mthrown, .ref (n 1), .ref (n 2), .ref (n 3), .ref (n 4), .int (nI mtaped), .ref (n 5), .int (nI msize), .int (nI (u_18.2.1 0)), .int (nI (u_18.2.1 1)), .int (u_18.1 0), .int (u_18.1 1), .int mfaultKind, .int mfaultPlace, .ref (n 6), .ref (n 7), .ref (n 8), .ref (n 9), .ref (n 10), .ref (n 11), .ref (n 12), .int (nI mmoreMany), .int mlawNow, .int mwetSet, .int moverAll, .ref (n 13), .ref (n 14), .ref (n 15), .int mones, .int mtwos, .int mgone, .ref (n 16), .ref (n 17), .int mroundNow, .ref (n 18), .long msampleFor, .long msampleAll, .ref (n 19), .int maskWorst, .long moftenAll, .long moftenView, .long moftenOnes, .ref (n 20), .ref (n 21), .ref (n 22), .ref (n 23)])), ((n 4), .inl (k 1, 600, .inl ftape)), ((n 6), .inl (k 0, 99, .inl ffresh))] H := hP.sub [1, 2, 0] rfl
            have hD : va_D A [((n 0), .inr (11, [.int mthrown, .ref (n 1), .ref (n 2), .ref (n 3), .ref (n 4), .int (nI mtaped), .ref (n 5), .int (nI msize), .int (nI (u_18.2.1 0)), .int (nI (u_18.2.1 1)), .int (u_18.1 0), .int (u_18.1 1), .int mfaultKind, .int mfaultPlace, .ref (n 6), .ref (n 7), .ref (n 8), .ref (n 9), .ref (n 10), .ref (n 11), .ref (n 12), .int (nI mmoreMany), .int mlawNow, .int mwetSet, .int moverAll, .ref (n 13), .ref (n 14), .ref (n 15), .int mones, .int mtwos, .int mgone, .ref (n 16), .ref (n 17), .int mroundNow, .ref (n 18), .long msampleFor, .long msampleAll, .ref (n 19), .int maskWorst, .long moftenAll, .long moftenView, .long moftenOnes, .ref (n 20), .ref (n 21), .ref (n 22), .ref (n 23)])), ((n 4), .inl (k 1, 600, .inl ftape)), ((n 6), .inl (k 0, 99, .inl ffresh))] := hD.sub [1, 2, 0] (by decide) rfl
            obtain ⟨rfl, hg_19, hg_20, hg_21, hg_22, hg_23⟩ := hr_17
            refine lv_if_eq (tgt := 104) hx hb dX11_readNext_94 (by decide) (fun c_24 => ?_) (fun c_24 => ?_)
            · skip
              have c_24 : ¬ (isW mfaultKind mtoken mat mfrom ftape 4) := isB_0.mp c_24
              exact absurd c_7 c_24
            · skip
              have c_24 : isW mfaultKind mtoken mat mfrom ftape 4 := isB_1.mp c_24
              have hroom := (hp_11.resolve_left (fun q => q c_13)).1 c_3
              refine lv_aload_n hx hb dX11_readNext_97 rfl (lv_at hl 1 rfl) ?_
              refine x_muVv (wr := []) (As := []) S hK hP hD hZ hS hA hl mwX11_readRow lkX11_209 (ctX11_readRow l D k z n mthrown mtaped msize (u_18.2.1 0) (u_18.2.1 1) (u_18.1 0) (u_18.1 1) mfaultKind mfaultPlace mmoreMany mlawNow mwetSet moverAll mones mtwos mgone mroundNow msampleFor msampleAll maskWorst moftenAll moftenView moftenOnes ftape ffresh (by omega) (by omega) (by omega) (by omega) (by omega) (hkfresh) (by omega) (by omega)) [0, 1, 2] [] rfl rfl (by decide) (by decide) (by decide) rfl rfl rfl rfl rfl ⟨Nat.le_of_ble_eq_true rfl, Nat.le_of_ble_eq_true rfl, Nat.le_of_ble_eq_true rfl⟩ dX11_readNext_98 ⟨Nat.le_of_ble_eq_true rfl, Nat.le_of_ble_eq_true rfl⟩ (fun u_26 H locs hr_25 hP hD hS => ?_)
              have hP : va_P D vwCl [((n 0), .inr (11, [.int mthrown, .ref (n 1), .ref (n 2), .ref (n 3), .ref (n 4), .int (nI mtaped), .ref (n 5), .int (nI msize), .int (nI (u_26.2.1 0)), .int (nI (u_26.2.1 1)), .int (u_26.1 0), .int (u_26.1 1), .int (u_26.1 2), .int (u_26.1 3), .ref (n 6), .ref (n 7), .ref (n 8), .ref (n 9), .ref (n 10), .ref (n 11), .ref (n 12), .int (nI mmoreMany), .int mlawNow, .int mwetSet, .int moverAll, .ref (n 13), .ref (n 14), .ref (n 15), .int mones, .int mtwos, .int mgone, .ref (n 16), .ref (n 17), .int mroundNow, .ref (n 18), .long msampleFor, .long msampleAll, .ref (n 19), .int maskWorst, .long moftenAll, .long moftenView, .long moftenOnes, .ref (n 20), .ref (n 21), .ref (n 22), .ref (n 23)])), ((n 4), .inl (k 1, 600, .inl ftape)), ((n 6), .inl (k 0, 99, .inl (u_26.2.2.1 0)))] H := hP.sub [0, 1, 2] rfl
              have hD : va_D A [((n 0), .inr (11, [.int mthrown, .ref (n 1), .ref (n 2), .ref (n 3), .ref (n 4), .int (nI mtaped), .ref (n 5), .int (nI msize), .int (nI (u_26.2.1 0)), .int (nI (u_26.2.1 1)), .int (u_26.1 0), .int (u_26.1 1), .int (u_26.1 2), .int (u_26.1 3), .ref (n 6), .ref (n 7), .ref (n 8), .ref (n 9), .ref (n 10), .ref (n 11), .ref (n 12), .int (nI mmoreMany), .int mlawNow, .int mwetSet, .int moverAll, .ref (n 13), .ref (n 14), .ref (n 15), .int mones, .int mtwos, .int mgone, .ref (n 16), .ref (n 17), .int mroundNow, .ref (n 18), .long msampleFor, .long msampleAll, .ref (n 19), .int maskWorst, .long moftenAll, .long moftenView, .long moftenOnes, .ref (n 20), .ref (n 21), .ref (n 22), .ref (n 23)])), ((n 4), .inl (k 1, 600, .inl ftape)), ((n 6), .inl (k 0, 99, .inl (u_26.2.2.1 0)))] := hD.sub [0, 1, 2] (by decide) rfl
              obtain ⟨hg_27, hg_28, hi_29, hg_30, hg_31⟩ := hr_25
              have hbhi_29 := okW_bd hi_29
              refine lv_goto (tgt := 128) hx hb dX11_readNext_101 (by decide) ?_
              exact x_retv S hr hlk hQ hS ((fun i => ([(u_26.1 0), (u_26.1 1), (u_26.1 2), (u_26.1 3)] : List (Int32)).getD i 0), (fun i => ([u_26.2.1 0, u_26.2.1 1] : List (Nat)).getD i 0), (fun i => ([(u_26.2.2.1 0)] : List (Nat → Int32)).getD i (fun _ => 0)), (fun i => ([] : List (Nat → Int64)).getD i (fun _ => 0)), (fun i => ([] : List (Int64)).getD i 0)) ⟨(show u_26.2.1 0 ≤ 600 by omega), (show u_26.2.1 1 ≤ 600 by omega), hi_29, (show mfrom ≤ u_26.2.1 1 ∧ u_26.2.1 1 ≤ u_26.2.1 0 by omega), (fun hz => (show mfaultKind = 0 ∧ mfrom < u_26.2.1 1 by have k_32 := hg_31 hz; exact ⟨k_32.1, by omega⟩))⟩ (x_B hP hD) dX11_readNext_128
          · skip
            have c_16 : ¬ (mfaultKind = 0) := bo_0.mp c_16
            exact x_retv S hr hlk hQ hS ((fun i => ([mtoken, mvalue, mfaultKind, mfaultPlace] : List (Int32)).getD i 0), (fun i => ([mat, mfrom] : List (Nat)).getD i 0), (fun i => ([ffresh] : List (Nat → Int32)).getD i (fun _ => 0)), (fun i => ([] : List (Nat → Int64)).getD i (fun _ => 0)), (fun i => ([] : List (Int64)).getD i 0)) ⟨(show mat ≤ 600 by omega), (show mfrom ≤ 600 by omega), hkfresh, (show mfrom ≤ mfrom ∧ mfrom ≤ mat by omega), (fun hz => absurd hz c_16)⟩ (x_B hP hD) dX11_readNext_87
        · skip
          refine lv_aload_n hx hb dX11_readNext_75 rfl (lv_at hl 1 rfl) ?_
          refine lv_iconst (v := 3) hx hb dX11_readNext_76 (by decide) ?_
          refine x_muVv (wr := [((n 4), .inl (k 1, 600, .inl ftape)), ((n 6), .inl (k 0, 99, .inl ffresh))]) (As := [.int 3]) S hK hP hD hZ hS hA hl mwX11_errs lkX11_168 (ctX11_errs l D k z n mthrown mtaped msize mat mfrom mtoken mvalue mfaultKind mfaultPlace mmoreMany mlawNow mwetSet moverAll mones mtwos mgone mroundNow msampleFor msampleAll maskWorst moftenAll moftenView moftenOnes 3 (by omega) (by omega) (by omega) (by omega) (by omega) (by omega) (by omega)) [0] [1, 2] rfl rfl (by decide) (by decide) (by decide) rfl rfl rfl rfl rfl ⟨Nat.le_of_ble_eq_true rfl, Nat.le_of_ble_eq_true rfl, Nat.le_of_ble_eq_true rfl⟩ dX11_readNext_77 ⟨Nat.le_of_ble_eq_true rfl, Nat.le_of_ble_eq_true rfl⟩ (fun u_34 H locs hr_33 hP hD hS => ?_)
          have hP : va_P D vwCl [((n 0), .inr (11, [.int mthrown, .ref (n 1), .ref (n 2), .ref (n 3), .ref (n 4), .int (nI mtaped), .ref (n 5), .int (nI msize), .int (nI mat), .int (nI mfrom), .int mtoken, .int mvalue, .int (u_34.1 0), .int (u_34.1 1), .ref (n 6), .ref (n 7), .ref (n 8), .ref (n 9), .ref (n 10), .ref (n 11), .ref (n 12), .int (nI mmoreMany), .int mlawNow, .int mwetSet, .int moverAll, .ref (n 13), .ref (n 14), .ref (n 15), .int mones, .int mtwos, .int mgone, .ref (n 16), .ref (n 17), .int mroundNow, .ref (n 18), .long msampleFor, .long msampleAll, .ref (n 19), .int maskWorst, .long moftenAll, .long moftenView, .long moftenOnes, .ref (n 20), .ref (n 21), .ref (n 22), .ref (n 23)])), ((n 4), .inl (k 1, 600, .inl ftape)), ((n 6), .inl (k 0, 99, .inl ffresh))] H := hP.sub [2, 0, 1] rfl
          have hD : va_D A [((n 0), .inr (11, [.int mthrown, .ref (n 1), .ref (n 2), .ref (n 3), .ref (n 4), .int (nI mtaped), .ref (n 5), .int (nI msize), .int (nI mat), .int (nI mfrom), .int mtoken, .int mvalue, .int (u_34.1 0), .int (u_34.1 1), .ref (n 6), .ref (n 7), .ref (n 8), .ref (n 9), .ref (n 10), .ref (n 11), .ref (n 12), .int (nI mmoreMany), .int mlawNow, .int mwetSet, .int moverAll, .ref (n 13), .ref (n 14), .ref (n 15), .int mones, .int mtwos, .int mgone, .ref (n 16), .ref (n 17), .int mroundNow, .ref (n 18), .long msampleFor, .long msampleAll, .ref (n 19), .int maskWorst, .long moftenAll, .long moftenView, .long moftenOnes, .ref (n 20), .ref (n 21), .ref (n 22), .ref (n 23)])), ((n 4), .inl (k 1, 600, .inl ftape)), ((n 6), .inl (k 0, 99, .inl ffresh))] := hD.sub [2, 0, 1] (by decide) rfl
          have hg_35 := hr_33
          refine lv_aload_n hx hb dX11_readNext_80 rfl (lv_at hl 1 rfl) ?_
          refine x_roVi (As := []) S hK hP hD hZ (fun _ h => h) hA hS hA hl mwX11_good lkX11_146 (ctX11_good l D k z n mthrown mtaped msize mat mfrom mtoken mvalue (u_34.1 0) (u_34.1 1) mmoreMany mlawNow mwetSet moverAll mones mtwos mgone mroundNow msampleFor msampleAll maskWorst moftenAll moftenView moftenOnes (by omega) (by omega) (by omega) (by omega) (by omega)) [0] rfl (by decide) rfl rfl rfl rfl rfl ⟨Nat.le_of_ble_eq_true rfl, Nat.le_of_ble_eq_true rfl, Nat.le_of_ble_eq_true rfl⟩ dX11_readNext_81 ⟨Nat.le_of_ble_eq_true rfl, Nat.le_of_ble_eq_true rfl⟩ (fun r_36 H locs hr_36 hP hS => ?_)
          obtain rfl := hr_36
          refine lv_if_ne (tgt := 88) hx hb dX11_readNext_84 (by decide) (fun c_38 => ?_) (fun c_38 => ?_)
          · skip
            have c_38 : (u_34.1 0) = 0 := bo_1.mp c_38
            exact absurd c_38 hg_35
          · skip
            have c_38 : ¬ ((u_34.1 0) = 0) := bo_0.mp c_38
            exact x_retv S hr hlk hQ hS ((fun i => ([mtoken, mvalue, (u_34.1 0), (u_34.1 1)] : List (Int32)).getD i 0), (fun i => ([mat, mfrom] : List (Nat)).getD i 0), (fun i => ([ffresh] : List (Nat → Int32)).getD i (fun _ => 0)), (fun i => ([] : List (Nat → Int64)).getD i (fun _ => 0)), (fun i => ([] : List (Int64)).getD i 0)) ⟨(show mat ≤ 600 by omega), (show mfrom ≤ 600 by omega), hkfresh, (show mfrom ≤ mfrom ∧ mfrom ≤ mat by omega), (fun hz => absurd hz c_38)⟩ (x_B hP hD) dX11_readNext_87
      · skip
        have c_8 : ¬ wn ffresh 5 + wn ffresh 6 ≤ 0 := fun q => c_8 ((ni_le rfl (by decide) (by omega) (by omega)).mpr q)
        refine lv_aload_n hx hb dX11_readNext_63 rfl (lv_at hl 1 rfl) ?_
        refine lv_iconst (v := 1) hx hb dX11_readNext_64 (by decide) ?_
        refine x_muVv (wr := [((n 4), .inl (k 1, 600, .inl ftape)), ((n 6), .inl (k 0, 99, .inl ffresh))]) (As := [.int 1]) S hK hP hD hZ hS hA hl mwX11_errs lkX11_168 (ctX11_errs l D k z n mthrown mtaped msize mat mfrom mtoken mvalue mfaultKind mfaultPlace mmoreMany mlawNow mwetSet moverAll mones mtwos mgone mroundNow msampleFor msampleAll maskWorst moftenAll moftenView moftenOnes 1 (by omega) (by omega) (by omega) (by omega) (by omega) (by omega) (by omega)) [0] [1, 2] rfl rfl (by decide) (by decide) (by decide) rfl rfl rfl rfl rfl ⟨Nat.le_of_ble_eq_true rfl, Nat.le_of_ble_eq_true rfl, Nat.le_of_ble_eq_true rfl⟩ dX11_readNext_65 ⟨Nat.le_of_ble_eq_true rfl, Nat.le_of_ble_eq_true rfl⟩ (fun u_40 H locs hr_39 hP hD hS => ?_)
        have hP : va_P D vwCl [((n 0), .inr (11, [.int mthrown, .ref (n 1), .ref (n 2), .ref (n 3), .ref (n 4), .int (nI mtaped), .ref (n 5), .int (nI msize), .int (nI mat), .int (nI mfrom), .int mtoken, .int mvalue, .int (u_40.1 0), .int (u_40.1 1), .ref (n 6), .ref (n 7), .ref (n 8), .ref (n 9), .ref (n 10), .ref (n 11), .ref (n 12), .int (nI mmoreMany), .int mlawNow, .int mwetSet, .int moverAll, .ref (n 13), .ref (n 14), .ref (n 15), .int mones, .int mtwos, .int mgone, .ref (n 16), .ref (n 17), .int mroundNow, .ref (n 18), .long msampleFor, .long msampleAll, .ref (n 19), .int maskWorst, .long moftenAll, .long moftenView, .long moftenOnes, .ref (n 20), .ref (n 21), .ref (n 22), .ref (n 23)])), ((n 4), .inl (k 1, 600, .inl ftape)), ((n 6), .inl (k 0, 99, .inl ffresh))] H := hP.sub [2, 0, 1] rfl
        have hD : va_D A [((n 0), .inr (11, [.int mthrown, .ref (n 1), .ref (n 2), .ref (n 3), .ref (n 4), .int (nI mtaped), .ref (n 5), .int (nI msize), .int (nI mat), .int (nI mfrom), .int mtoken, .int mvalue, .int (u_40.1 0), .int (u_40.1 1), .ref (n 6), .ref (n 7), .ref (n 8), .ref (n 9), .ref (n 10), .ref (n 11), .ref (n 12), .int (nI mmoreMany), .int mlawNow, .int mwetSet, .int moverAll, .ref (n 13), .ref (n 14), .ref (n 15), .int mones, .int mtwos, .int mgone, .ref (n 16), .ref (n 17), .int mroundNow, .ref (n 18), .long msampleFor, .long msampleAll, .ref (n 19), .int maskWorst, .long moftenAll, .long moftenView, .long moftenOnes, .ref (n 20), .ref (n 21), .ref (n 22), .ref (n 23)])), ((n 4), .inl (k 1, 600, .inl ftape)), ((n 6), .inl (k 0, 99, .inl ffresh))] := hD.sub [2, 0, 1] (by decide) rfl
        have hg_41 := hr_39
        refine lv_aload_n hx hb dX11_readNext_68 rfl (lv_at hl 1 rfl) ?_
        refine x_roVi (As := []) S hK hP hD hZ (fun _ h => h) hA hS hA hl mwX11_isFull lkX11_206 (ctX11_isFull l D k z n mthrown mtaped msize mat mfrom mtoken mvalue (u_40.1 0) (u_40.1 1) mmoreMany mlawNow mwetSet moverAll mones mtwos mgone mroundNow msampleFor msampleAll maskWorst moftenAll moftenView moftenOnes ftape ffresh (by omega) (by omega) (by omega) (by omega) (by omega) (hkfresh)) [0, 1, 2] rfl (by decide) rfl rfl rfl rfl rfl ⟨Nat.le_of_ble_eq_true rfl, Nat.le_of_ble_eq_true rfl, Nat.le_of_ble_eq_true rfl⟩ dX11_readNext_69 ⟨Nat.le_of_ble_eq_true rfl, Nat.le_of_ble_eq_true rfl⟩ (fun r_42 H locs hr_42 hP hS => ?_)
        obtain ⟨hp_44, hz_45⟩ := hr_42
        refine lv_if_eq (tgt := 80) hx hb dX11_readNext_72 (by decide) (fun c_46 => ?_) (fun c_46 => ?_)
        · skip
          refine lv_aload_n hx hb dX11_readNext_80 rfl (lv_at hl 1 rfl) ?_
          refine x_roVi (As := []) S hK hP hD hZ (fun _ h => h) hA hS hA hl mwX11_good lkX11_146 (ctX11_good l D k z n mthrown mtaped msize mat mfrom mtoken mvalue (u_40.1 0) (u_40.1 1) mmoreMany mlawNow mwetSet moverAll mones mtwos mgone mroundNow msampleFor msampleAll maskWorst moftenAll moftenView moftenOnes (by omega) (by omega) (by omega) (by omega) (by omega)) [0] rfl (by decide) rfl rfl rfl rfl rfl ⟨Nat.le_of_ble_eq_true rfl, Nat.le_of_ble_eq_true rfl, Nat.le_of_ble_eq_true rfl⟩ dX11_readNext_81 ⟨Nat.le_of_ble_eq_true rfl, Nat.le_of_ble_eq_true rfl⟩ (fun r_47 H locs hr_47 hP hS => ?_)
          obtain rfl := hr_47
          refine lv_if_ne (tgt := 88) hx hb dX11_readNext_84 (by decide) (fun c_49 => ?_) (fun c_49 => ?_)
          · skip
            have c_49 : (u_40.1 0) = 0 := bo_1.mp c_49
            exact absurd c_49 hg_41
          · skip
            have c_49 : ¬ ((u_40.1 0) = 0) := bo_0.mp c_49
            exact x_retv S hr hlk hQ hS ((fun i => ([mtoken, mvalue, (u_40.1 0), (u_40.1 1)] : List (Int32)).getD i 0), (fun i => ([mat, mfrom] : List (Nat)).getD i 0), (fun i => ([ffresh] : List (Nat → Int32)).getD i (fun _ => 0)), (fun i => ([] : List (Nat → Int64)).getD i (fun _ => 0)), (fun i => ([] : List (Int64)).getD i 0)) ⟨(show mat ≤ 600 by omega), (show mfrom ≤ 600 by omega), hkfresh, (show mfrom ≤ mfrom ∧ mfrom ≤ mat by omega), (fun hz => absurd hz c_49)⟩ (x_B hP hD) dX11_readNext_87
        · skip
          refine lv_aload_n hx hb dX11_readNext_75 rfl (lv_at hl 1 rfl) ?_
          refine lv_iconst (v := 3) hx hb dX11_readNext_76 (by decide) ?_
          refine x_muVv (wr := [((n 4), .inl (k 1, 600, .inl ftape)), ((n 6), .inl (k 0, 99, .inl ffresh))]) (As := [.int 3]) S hK hP hD hZ hS hA hl mwX11_errs lkX11_168 (ctX11_errs l D k z n mthrown mtaped msize mat mfrom mtoken mvalue (u_40.1 0) (u_40.1 1) mmoreMany mlawNow mwetSet moverAll mones mtwos mgone mroundNow msampleFor msampleAll maskWorst moftenAll moftenView moftenOnes 3 (by omega) (by omega) (by omega) (by omega) (by omega) (by omega) (by omega)) [0] [1, 2] rfl rfl (by decide) (by decide) (by decide) rfl rfl rfl rfl rfl ⟨Nat.le_of_ble_eq_true rfl, Nat.le_of_ble_eq_true rfl, Nat.le_of_ble_eq_true rfl⟩ dX11_readNext_77 ⟨Nat.le_of_ble_eq_true rfl, Nat.le_of_ble_eq_true rfl⟩ (fun u_51 H locs hr_50 hP hD hS => ?_)
          have hP : va_P D vwCl [((n 0), .inr (11, [.int mthrown, .ref (n 1), .ref (n 2), .ref (n 3), .ref (n 4), .int (nI mtaped), .ref (n 5), .int (nI msize), .int (nI mat), .int (nI mfrom), .int mtoken, .int mvalue, .int (u_51.1 0), .int (u_51.1 1), .ref (n 6), .ref (n 7), .ref (n 8), .ref (n 9), .ref (n 10), .ref (n 11), .ref (n 12), .int (nI mmoreMany), .int mlawNow, .int mwetSet, .int moverAll, .ref (n 13), .ref (n 14), .ref (n 15), .int mones, .int mtwos, .int mgone, .ref (n 16), .ref (n 17), .int mroundNow, .ref (n 18), .long msampleFor, .long msampleAll, .ref (n 19), .int maskWorst, .long moftenAll, .long moftenView, .long moftenOnes, .ref (n 20), .ref (n 21), .ref (n 22), .ref (n 23)])), ((n 4), .inl (k 1, 600, .inl ftape)), ((n 6), .inl (k 0, 99, .inl ffresh))] H := hP.sub [2, 0, 1] rfl
          have hD : va_D A [((n 0), .inr (11, [.int mthrown, .ref (n 1), .ref (n 2), .ref (n 3), .ref (n 4), .int (nI mtaped), .ref (n 5), .int (nI msize), .int (nI mat), .int (nI mfrom), .int mtoken, .int mvalue, .int (u_51.1 0), .int (u_51.1 1), .ref (n 6), .ref (n 7), .ref (n 8), .ref (n 9), .ref (n 10), .ref (n 11), .ref (n 12), .int (nI mmoreMany), .int mlawNow, .int mwetSet, .int moverAll, .ref (n 13), .ref (n 14), .ref (n 15), .int mones, .int mtwos, .int mgone, .ref (n 16), .ref (n 17), .int mroundNow, .ref (n 18), .long msampleFor, .long msampleAll, .ref (n 19), .int maskWorst, .long moftenAll, .long moftenView, .long moftenOnes, .ref (n 20), .ref (n 21), .ref (n 22), .ref (n 23)])), ((n 4), .inl (k 1, 600, .inl ftape)), ((n 6), .inl (k 0, 99, .inl ffresh))] := hD.sub [2, 0, 1] (by decide) rfl
          have hg_52 := hr_50
          refine lv_aload_n hx hb dX11_readNext_80 rfl (lv_at hl 1 rfl) ?_
          refine x_roVi (As := []) S hK hP hD hZ (fun _ h => h) hA hS hA hl mwX11_good lkX11_146 (ctX11_good l D k z n mthrown mtaped msize mat mfrom mtoken mvalue (u_51.1 0) (u_51.1 1) mmoreMany mlawNow mwetSet moverAll mones mtwos mgone mroundNow msampleFor msampleAll maskWorst moftenAll moftenView moftenOnes (by omega) (by omega) (by omega) (by omega) (by omega)) [0] rfl (by decide) rfl rfl rfl rfl rfl ⟨Nat.le_of_ble_eq_true rfl, Nat.le_of_ble_eq_true rfl, Nat.le_of_ble_eq_true rfl⟩ dX11_readNext_81 ⟨Nat.le_of_ble_eq_true rfl, Nat.le_of_ble_eq_true rfl⟩ (fun r_53 H locs hr_53 hP hS => ?_)
          obtain rfl := hr_53
          refine lv_if_ne (tgt := 88) hx hb dX11_readNext_84 (by decide) (fun c_55 => ?_) (fun c_55 => ?_)
          · skip
            have c_55 : (u_51.1 0) = 0 := bo_1.mp c_55
            exact absurd c_55 hg_52
          · skip
            have c_55 : ¬ ((u_51.1 0) = 0) := bo_0.mp c_55
            exact x_retv S hr hlk hQ hS ((fun i => ([mtoken, mvalue, (u_51.1 0), (u_51.1 1)] : List (Int32)).getD i 0), (fun i => ([mat, mfrom] : List (Nat)).getD i 0), (fun i => ([ffresh] : List (Nat → Int32)).getD i (fun _ => 0)), (fun i => ([] : List (Nat → Int64)).getD i (fun _ => 0)), (fun i => ([] : List (Int64)).getD i 0)) ⟨(show mat ≤ 600 by omega), (show mfrom ≤ 600 by omega), hkfresh, (show mfrom ≤ mfrom ∧ mfrom ≤ mat by omega), (fun hz => absurd hz c_55)⟩ (x_B hP hD) dX11_readNext_87
  · skip
    have c_3 : ¬ (isW mfaultKind mtoken mat mfrom ftape 4) := isB_0.mp c_3
    refine lv_aload_n hx hb dX11_readNext_9 rfl (lv_at hl 0 rfl) ?_
    refine x_ldcS S hZ lsX11_202 dX11_readNext_10 ?_
    refine x_roVi (As := [.ref (z 7)]) S hK hP hD hZ (fun _ h => h) hA hS hA hl mwX11_is lkX11_158 (ctX11_is l D k z n mthrown mtaped msize mat mfrom mtoken mvalue mfaultKind mfaultPlace mmoreMany mlawNow mwetSet moverAll mones mtwos mgone mroundNow msampleFor msampleAll maskWorst moftenAll moftenView moftenOnes ftape 7 (by omega) (by omega) (by omega) (by omega) (by omega) (by omega)) [0, 1] rfl (by decide) rfl rfl rfl rfl rfl ⟨Nat.le_of_ble_eq_true rfl, Nat.le_of_ble_eq_true rfl, Nat.le_of_ble_eq_true rfl⟩ dX11_readNext_12 ⟨Nat.le_of_ble_eq_true rfl, Nat.le_of_ble_eq_true rfl⟩ (fun r_56 H locs hr_56 hP hS => ?_)
    obtain rfl := hr_56
    refine lv_if_ne (tgt := 27) hx hb dX11_readNext_15 (by decide) (fun c_58 => ?_) (fun c_58 => ?_)
    · skip
      have c_58 : isW mfaultKind mtoken mat mfrom ftape 7 := isB_1.mp c_58
      refine lv_iconst (v := 1) hx hb dX11_readNext_27 (by decide) ?_
      refine lv_goto (tgt := 32) hx hb dX11_readNext_28 (by decide) ?_
      refine lv_istore_n (lv' := [(1, .int 1), (0, .ref (n 0))]) hx hb dX11_readNext_32 rfl hl (by decide) rfl (fun ls hl => ?_)
      refine lv_iload_n hx hb dX11_readNext_33 rfl (lv_at hl 0 rfl) ?_
      refine lv_if_eq (tgt := 63) hx hb dX11_readNext_34 (by decide) (fun c_59 => absurd c_59 (by decide)) (fun c_59 => ?_)
      refine lv_aload_n hx hb dX11_readNext_37 rfl (lv_at hl 1 rfl) ?_
      refine x_ldcS S hZ lsX11_200 dX11_readNext_38 ?_
      refine x_roVi (As := [.ref (z 4)]) S hK hP hD hZ (fun _ h => h) hA hS hA hl mwX11_is lkX11_158 (ctX11_is l D k z n mthrown mtaped msize mat mfrom mtoken mvalue mfaultKind mfaultPlace mmoreMany mlawNow mwetSet moverAll mones mtwos mgone mroundNow msampleFor msampleAll maskWorst moftenAll moftenView moftenOnes ftape 4 (by omega) (by omega) (by omega) (by omega) (by omega) (by omega)) [0, 1] rfl (by decide) rfl rfl rfl rfl rfl ⟨Nat.le_of_ble_eq_true rfl, Nat.le_of_ble_eq_true rfl, Nat.le_of_ble_eq_true rfl⟩ dX11_readNext_40 ⟨Nat.le_of_ble_eq_true rfl, Nat.le_of_ble_eq_true rfl⟩ (fun r_60 H locs hr_60 hP hS => ?_)
      obtain rfl := hr_60
      refine lv_if_eq (tgt := 68) hx hb dX11_readNext_43 (by decide) (fun c_62 => ?_) (fun c_62 => ?_)
      · skip
        have c_62 : ¬ (isW mfaultKind mtoken mat mfrom ftape 4) := isB_0.mp c_62
        refine lv_aload_n hx hb dX11_readNext_68 rfl (lv_at hl 1 rfl) ?_
        refine x_roVi (As := []) S hK hP hD hZ (fun _ h => h) hA hS hA hl mwX11_isFull lkX11_206 (ctX11_isFull l D k z n mthrown mtaped msize mat mfrom mtoken mvalue mfaultKind mfaultPlace mmoreMany mlawNow mwetSet moverAll mones mtwos mgone mroundNow msampleFor msampleAll maskWorst moftenAll moftenView moftenOnes ftape ffresh (by omega) (by omega) (by omega) (by omega) (by omega) (hkfresh)) [0, 1, 2] rfl (by decide) rfl rfl rfl rfl rfl ⟨Nat.le_of_ble_eq_true rfl, Nat.le_of_ble_eq_true rfl, Nat.le_of_ble_eq_true rfl⟩ dX11_readNext_69 ⟨Nat.le_of_ble_eq_true rfl, Nat.le_of_ble_eq_true rfl⟩ (fun r_63 H locs hr_63 hP hS => ?_)
        obtain ⟨hp_65, hz_66⟩ := hr_63
        refine lv_if_eq (tgt := 80) hx hb dX11_readNext_72 (by decide) (fun c_67 => ?_) (fun c_67 => ?_)
        · skip
          refine lv_aload_n hx hb dX11_readNext_80 rfl (lv_at hl 1 rfl) ?_
          refine x_roVi (As := []) S hK hP hD hZ (fun _ h => h) hA hS hA hl mwX11_good lkX11_146 (ctX11_good l D k z n mthrown mtaped msize mat mfrom mtoken mvalue mfaultKind mfaultPlace mmoreMany mlawNow mwetSet moverAll mones mtwos mgone mroundNow msampleFor msampleAll maskWorst moftenAll moftenView moftenOnes (by omega) (by omega) (by omega) (by omega) (by omega)) [0] rfl (by decide) rfl rfl rfl rfl rfl ⟨Nat.le_of_ble_eq_true rfl, Nat.le_of_ble_eq_true rfl, Nat.le_of_ble_eq_true rfl⟩ dX11_readNext_81 ⟨Nat.le_of_ble_eq_true rfl, Nat.le_of_ble_eq_true rfl⟩ (fun r_68 H locs hr_68 hP hS => ?_)
          obtain rfl := hr_68
          refine lv_if_ne (tgt := 88) hx hb dX11_readNext_84 (by decide) (fun c_70 => ?_) (fun c_70 => ?_)
          · skip
            have c_70 : mfaultKind = 0 := bo_1.mp c_70
            refine lv_aload_n hx hb dX11_readNext_88 rfl (lv_at hl 1 rfl) ?_
            refine x_ldcS S hZ lsX11_200 dX11_readNext_89 ?_
            refine x_muVi (wr := [((n 6), .inl (k 0, 99, .inl ffresh))]) (As := [.ref (z 4)]) S hK hP hD hZ hS hA hl mwX11_takes lkX11_165 (ctX11_takes l D k z n mthrown mtaped msize mat mfrom mtoken mvalue mfaultKind mfaultPlace mmoreMany mlawNow mwetSet moverAll mones mtwos mgone mroundNow msampleFor msampleAll maskWorst moftenAll moftenView moftenOnes ftape 4 (by omega) (by omega) (by omega) (by omega) (by omega) (by omega) (by omega)) [0, 1] [2] rfl rfl (by decide) (by decide) (by decide) rfl rfl rfl rfl rfl ⟨Nat.le_of_ble_eq_true rfl, Nat.le_of_ble_eq_true rfl, Nat.le_of_ble_eq_true rfl⟩ dX11_readNext_91 ⟨Nat.le_of_ble_eq_true rfl, Nat.le_of_ble_eq_true rfl⟩ (fun r_71 u_72 H locs hr_71 hP hD hS => ?_)
            have hP : va_P D vwCl [((n 0), .inr (11, [.int mthrown, .ref (n 1), .ref (n 2), .ref (n 3), .ref (n 4), .int (nI mtaped), .ref (n 5), .int (nI msize), .int (nI (u_72.2.1 0)), .int (nI (u_72.2.1 1)), .int (u_72.1 0), .int (u_72.1 1), .int mfaultKind, .int mfaultPlace, .ref (n 6), .ref (n 7), .ref (n 8), .ref (n 9), .ref (n 10), .ref (n 11), .ref (n 12), .int (nI mmoreMany), .int mlawNow, .int mwetSet, .int moverAll, .ref (n 13), .ref (n 14), .ref (n 15), .int mones, .int mtwos, .int mgone, .ref (n 16), .ref (n 17), .int mroundNow, .ref (n 18), .long msampleFor, .long msampleAll, .ref (n 19), .int maskWorst, .long moftenAll, .long moftenView, .long moftenOnes, .ref (n 20), .ref (n 21), .ref (n 22), .ref (n 23)])), ((n 4), .inl (k 1, 600, .inl ftape)), ((n 6), .inl (k 0, 99, .inl ffresh))] H := hP.sub [1, 2, 0] rfl
            have hD : va_D A [((n 0), .inr (11, [.int mthrown, .ref (n 1), .ref (n 2), .ref (n 3), .ref (n 4), .int (nI mtaped), .ref (n 5), .int (nI msize), .int (nI (u_72.2.1 0)), .int (nI (u_72.2.1 1)), .int (u_72.1 0), .int (u_72.1 1), .int mfaultKind, .int mfaultPlace, .ref (n 6), .ref (n 7), .ref (n 8), .ref (n 9), .ref (n 10), .ref (n 11), .ref (n 12), .int (nI mmoreMany), .int mlawNow, .int mwetSet, .int moverAll, .ref (n 13), .ref (n 14), .ref (n 15), .int mones, .int mtwos, .int mgone, .ref (n 16), .ref (n 17), .int mroundNow, .ref (n 18), .long msampleFor, .long msampleAll, .ref (n 19), .int maskWorst, .long moftenAll, .long moftenView, .long moftenOnes, .ref (n 20), .ref (n 21), .ref (n 22), .ref (n 23)])), ((n 4), .inl (k 1, 600, .inl ftape)), ((n 6), .inl (k 0, 99, .inl ffresh))] := hD.sub [1, 2, 0] (by decide) rfl
            obtain ⟨rfl, hg_73, hg_74, hg_75, hg_76, hg_77⟩ := hr_71
            refine lv_if_eq (tgt := 104) hx hb dX11_readNext_94 (by decide) (fun c_78 => ?_) (fun c_78 => ?_)
            · skip
              have c_78 : ¬ (isW mfaultKind mtoken mat mfrom ftape 4) := isB_0.mp c_78
              obtain ⟨et, ea, ef⟩ := hg_77.resolve_left c_3
              refine lv_aload_n hx hb dX11_readNext_104 rfl (lv_at hl 1 rfl) ?_
              refine x_ldcS S hZ lsX11_202 dX11_readNext_105 ?_
              refine x_muVi (wr := [((n 6), .inl (k 0, 99, .inl ffresh))]) (As := [.ref (z 7)]) S hK hP hD hZ hS hA hl mwX11_takes lkX11_165 (ctX11_takes l D k z n mthrown mtaped msize (u_72.2.1 0) (u_72.2.1 1) (u_72.1 0) (u_72.1 1) mfaultKind mfaultPlace mmoreMany mlawNow mwetSet moverAll mones mtwos mgone mroundNow msampleFor msampleAll maskWorst moftenAll moftenView moftenOnes ftape 7 (by omega) (by omega) (by omega) (by omega) (by omega) (by omega) (by omega)) [0, 1] [2] rfl rfl (by decide) (by decide) (by decide) rfl rfl rfl rfl rfl ⟨Nat.le_of_ble_eq_true rfl, Nat.le_of_ble_eq_true rfl, Nat.le_of_ble_eq_true rfl⟩ dX11_readNext_107 ⟨Nat.le_of_ble_eq_true rfl, Nat.le_of_ble_eq_true rfl⟩ (fun r_79 u_80 H locs hr_79 hP hD hS => ?_)
              have hP : va_P D vwCl [((n 0), .inr (11, [.int mthrown, .ref (n 1), .ref (n 2), .ref (n 3), .ref (n 4), .int (nI mtaped), .ref (n 5), .int (nI msize), .int (nI (u_80.2.1 0)), .int (nI (u_80.2.1 1)), .int (u_80.1 0), .int (u_80.1 1), .int mfaultKind, .int mfaultPlace, .ref (n 6), .ref (n 7), .ref (n 8), .ref (n 9), .ref (n 10), .ref (n 11), .ref (n 12), .int (nI mmoreMany), .int mlawNow, .int mwetSet, .int moverAll, .ref (n 13), .ref (n 14), .ref (n 15), .int mones, .int mtwos, .int mgone, .ref (n 16), .ref (n 17), .int mroundNow, .ref (n 18), .long msampleFor, .long msampleAll, .ref (n 19), .int maskWorst, .long moftenAll, .long moftenView, .long moftenOnes, .ref (n 20), .ref (n 21), .ref (n 22), .ref (n 23)])), ((n 4), .inl (k 1, 600, .inl ftape)), ((n 6), .inl (k 0, 99, .inl ffresh))] H := hP.sub [1, 2, 0] rfl
              have hD : va_D A [((n 0), .inr (11, [.int mthrown, .ref (n 1), .ref (n 2), .ref (n 3), .ref (n 4), .int (nI mtaped), .ref (n 5), .int (nI msize), .int (nI (u_80.2.1 0)), .int (nI (u_80.2.1 1)), .int (u_80.1 0), .int (u_80.1 1), .int mfaultKind, .int mfaultPlace, .ref (n 6), .ref (n 7), .ref (n 8), .ref (n 9), .ref (n 10), .ref (n 11), .ref (n 12), .int (nI mmoreMany), .int mlawNow, .int mwetSet, .int moverAll, .ref (n 13), .ref (n 14), .ref (n 15), .int mones, .int mtwos, .int mgone, .ref (n 16), .ref (n 17), .int mroundNow, .ref (n 18), .long msampleFor, .long msampleAll, .ref (n 19), .int maskWorst, .long moftenAll, .long moftenView, .long moftenOnes, .ref (n 20), .ref (n 21), .ref (n 22), .ref (n 23)])), ((n 4), .inl (k 1, 600, .inl ftape)), ((n 6), .inl (k 0, 99, .inl ffresh))] := hD.sub [1, 2, 0] (by decide) rfl
              obtain ⟨rfl, hg_81, hg_82, hg_83, hg_84, hg_85⟩ := hr_79
              refine lv_if_eq (tgt := 120) hx hb dX11_readNext_110 (by decide) (fun c_86 => ?_) (fun c_86 => ?_)
              · skip
                have c_86 : ¬ (isW mfaultKind (u_72.1 0) (u_72.2.1 0) (u_72.2.1 1) ftape 7) := isB_0.mp c_86
                exact absurd (by rw [et, ea, ef]; exact c_58) c_86
              · skip
                have c_86 : isW mfaultKind (u_72.1 0) (u_72.2.1 0) (u_72.2.1 1) ftape 7 := isB_1.mp c_86
                have cw2 : isW mfaultKind mtoken mat mfrom ftape 7 := by rw [et, ea, ef] at c_86; exact c_86
                have hroom := (hp_65.resolve_left (fun q => q c_67)).2.1 cw2
                refine lv_aload_n hx hb dX11_readNext_113 rfl (lv_at hl 1 rfl) ?_
                refine x_muVv (wr := []) (As := []) S hK hP hD hZ hS hA hl mwX11_readSay lkX11_212 (ctX11_readSay l D k z n mthrown mtaped msize (u_80.2.1 0) (u_80.2.1 1) (u_80.1 0) (u_80.1 1) mfaultKind mfaultPlace mmoreMany mlawNow mwetSet moverAll mones mtwos mgone mroundNow msampleFor msampleAll maskWorst moftenAll moftenView moftenOnes ftape ffresh (by omega) (by omega) (by omega) (by omega) (by omega) (hkfresh) (by omega) (by omega)) [0, 1, 2] [] rfl rfl (by decide) (by decide) (by decide) rfl rfl rfl rfl rfl ⟨Nat.le_of_ble_eq_true rfl, Nat.le_of_ble_eq_true rfl, Nat.le_of_ble_eq_true rfl⟩ dX11_readNext_114 ⟨Nat.le_of_ble_eq_true rfl, Nat.le_of_ble_eq_true rfl⟩ (fun u_88 H locs hr_87 hP hD hS => ?_)
                have hP : va_P D vwCl [((n 0), .inr (11, [.int mthrown, .ref (n 1), .ref (n 2), .ref (n 3), .ref (n 4), .int (nI mtaped), .ref (n 5), .int (nI msize), .int (nI (u_88.2.1 0)), .int (nI (u_88.2.1 1)), .int (u_88.1 0), .int (u_88.1 1), .int (u_88.1 2), .int (u_88.1 3), .ref (n 6), .ref (n 7), .ref (n 8), .ref (n 9), .ref (n 10), .ref (n 11), .ref (n 12), .int (nI mmoreMany), .int mlawNow, .int mwetSet, .int moverAll, .ref (n 13), .ref (n 14), .ref (n 15), .int mones, .int mtwos, .int mgone, .ref (n 16), .ref (n 17), .int mroundNow, .ref (n 18), .long msampleFor, .long msampleAll, .ref (n 19), .int maskWorst, .long moftenAll, .long moftenView, .long moftenOnes, .ref (n 20), .ref (n 21), .ref (n 22), .ref (n 23)])), ((n 4), .inl (k 1, 600, .inl ftape)), ((n 6), .inl (k 0, 99, .inl (u_88.2.2.1 0)))] H := hP.sub [0, 1, 2] rfl
                have hD : va_D A [((n 0), .inr (11, [.int mthrown, .ref (n 1), .ref (n 2), .ref (n 3), .ref (n 4), .int (nI mtaped), .ref (n 5), .int (nI msize), .int (nI (u_88.2.1 0)), .int (nI (u_88.2.1 1)), .int (u_88.1 0), .int (u_88.1 1), .int (u_88.1 2), .int (u_88.1 3), .ref (n 6), .ref (n 7), .ref (n 8), .ref (n 9), .ref (n 10), .ref (n 11), .ref (n 12), .int (nI mmoreMany), .int mlawNow, .int mwetSet, .int moverAll, .ref (n 13), .ref (n 14), .ref (n 15), .int mones, .int mtwos, .int mgone, .ref (n 16), .ref (n 17), .int mroundNow, .ref (n 18), .long msampleFor, .long msampleAll, .ref (n 19), .int maskWorst, .long moftenAll, .long moftenView, .long moftenOnes, .ref (n 20), .ref (n 21), .ref (n 22), .ref (n 23)])), ((n 4), .inl (k 1, 600, .inl ftape)), ((n 6), .inl (k 0, 99, .inl (u_88.2.2.1 0)))] := hD.sub [0, 1, 2] (by decide) rfl
                obtain ⟨hg_89, hg_90, hi_91, hg_92, hg_93⟩ := hr_87
                have hbhi_91 := okW_bd hi_91
                refine lv_goto (tgt := 128) hx hb dX11_readNext_117 (by decide) ?_
                exact x_retv S hr hlk hQ hS ((fun i => ([(u_88.1 0), (u_88.1 1), (u_88.1 2), (u_88.1 3)] : List (Int32)).getD i 0), (fun i => ([u_88.2.1 0, u_88.2.1 1] : List (Nat)).getD i 0), (fun i => ([(u_88.2.2.1 0)] : List (Nat → Int32)).getD i (fun _ => 0)), (fun i => ([] : List (Nat → Int64)).getD i (fun _ => 0)), (fun i => ([] : List (Int64)).getD i 0)) ⟨(show u_88.2.1 0 ≤ 600 by omega), (show u_88.2.1 1 ≤ 600 by omega), hi_91, (show mfrom ≤ u_88.2.1 1 ∧ u_88.2.1 1 ≤ u_88.2.1 0 by omega), (fun hz => (show mfaultKind = 0 ∧ mfrom < u_88.2.1 1 by have k_94 := hg_93 hz; exact ⟨k_94.1, by omega⟩))⟩ (x_B hP hD) dX11_readNext_128
            · skip
              have c_78 : isW mfaultKind mtoken mat mfrom ftape 4 := isB_1.mp c_78
              exact absurd c_78 c_62
          · skip
            have c_70 : ¬ (mfaultKind = 0) := bo_0.mp c_70
            exact x_retv S hr hlk hQ hS ((fun i => ([mtoken, mvalue, mfaultKind, mfaultPlace] : List (Int32)).getD i 0), (fun i => ([mat, mfrom] : List (Nat)).getD i 0), (fun i => ([ffresh] : List (Nat → Int32)).getD i (fun _ => 0)), (fun i => ([] : List (Nat → Int64)).getD i (fun _ => 0)), (fun i => ([] : List (Int64)).getD i 0)) ⟨(show mat ≤ 600 by omega), (show mfrom ≤ 600 by omega), hkfresh, (show mfrom ≤ mfrom ∧ mfrom ≤ mat by omega), (fun hz => absurd hz c_70)⟩ (x_B hP hD) dX11_readNext_87
        · skip
          refine lv_aload_n hx hb dX11_readNext_75 rfl (lv_at hl 1 rfl) ?_
          refine lv_iconst (v := 3) hx hb dX11_readNext_76 (by decide) ?_
          refine x_muVv (wr := [((n 4), .inl (k 1, 600, .inl ftape)), ((n 6), .inl (k 0, 99, .inl ffresh))]) (As := [.int 3]) S hK hP hD hZ hS hA hl mwX11_errs lkX11_168 (ctX11_errs l D k z n mthrown mtaped msize mat mfrom mtoken mvalue mfaultKind mfaultPlace mmoreMany mlawNow mwetSet moverAll mones mtwos mgone mroundNow msampleFor msampleAll maskWorst moftenAll moftenView moftenOnes 3 (by omega) (by omega) (by omega) (by omega) (by omega) (by omega) (by omega)) [0] [1, 2] rfl rfl (by decide) (by decide) (by decide) rfl rfl rfl rfl rfl ⟨Nat.le_of_ble_eq_true rfl, Nat.le_of_ble_eq_true rfl, Nat.le_of_ble_eq_true rfl⟩ dX11_readNext_77 ⟨Nat.le_of_ble_eq_true rfl, Nat.le_of_ble_eq_true rfl⟩ (fun u_96 H locs hr_95 hP hD hS => ?_)
          have hP : va_P D vwCl [((n 0), .inr (11, [.int mthrown, .ref (n 1), .ref (n 2), .ref (n 3), .ref (n 4), .int (nI mtaped), .ref (n 5), .int (nI msize), .int (nI mat), .int (nI mfrom), .int mtoken, .int mvalue, .int (u_96.1 0), .int (u_96.1 1), .ref (n 6), .ref (n 7), .ref (n 8), .ref (n 9), .ref (n 10), .ref (n 11), .ref (n 12), .int (nI mmoreMany), .int mlawNow, .int mwetSet, .int moverAll, .ref (n 13), .ref (n 14), .ref (n 15), .int mones, .int mtwos, .int mgone, .ref (n 16), .ref (n 17), .int mroundNow, .ref (n 18), .long msampleFor, .long msampleAll, .ref (n 19), .int maskWorst, .long moftenAll, .long moftenView, .long moftenOnes, .ref (n 20), .ref (n 21), .ref (n 22), .ref (n 23)])), ((n 4), .inl (k 1, 600, .inl ftape)), ((n 6), .inl (k 0, 99, .inl ffresh))] H := hP.sub [2, 0, 1] rfl
          have hD : va_D A [((n 0), .inr (11, [.int mthrown, .ref (n 1), .ref (n 2), .ref (n 3), .ref (n 4), .int (nI mtaped), .ref (n 5), .int (nI msize), .int (nI mat), .int (nI mfrom), .int mtoken, .int mvalue, .int (u_96.1 0), .int (u_96.1 1), .ref (n 6), .ref (n 7), .ref (n 8), .ref (n 9), .ref (n 10), .ref (n 11), .ref (n 12), .int (nI mmoreMany), .int mlawNow, .int mwetSet, .int moverAll, .ref (n 13), .ref (n 14), .ref (n 15), .int mones, .int mtwos, .int mgone, .ref (n 16), .ref (n 17), .int mroundNow, .ref (n 18), .long msampleFor, .long msampleAll, .ref (n 19), .int maskWorst, .long moftenAll, .long moftenView, .long moftenOnes, .ref (n 20), .ref (n 21), .ref (n 22), .ref (n 23)])), ((n 4), .inl (k 1, 600, .inl ftape)), ((n 6), .inl (k 0, 99, .inl ffresh))] := hD.sub [2, 0, 1] (by decide) rfl
          have hg_97 := hr_95
          refine lv_aload_n hx hb dX11_readNext_80 rfl (lv_at hl 1 rfl) ?_
          refine x_roVi (As := []) S hK hP hD hZ (fun _ h => h) hA hS hA hl mwX11_good lkX11_146 (ctX11_good l D k z n mthrown mtaped msize mat mfrom mtoken mvalue (u_96.1 0) (u_96.1 1) mmoreMany mlawNow mwetSet moverAll mones mtwos mgone mroundNow msampleFor msampleAll maskWorst moftenAll moftenView moftenOnes (by omega) (by omega) (by omega) (by omega) (by omega)) [0] rfl (by decide) rfl rfl rfl rfl rfl ⟨Nat.le_of_ble_eq_true rfl, Nat.le_of_ble_eq_true rfl, Nat.le_of_ble_eq_true rfl⟩ dX11_readNext_81 ⟨Nat.le_of_ble_eq_true rfl, Nat.le_of_ble_eq_true rfl⟩ (fun r_98 H locs hr_98 hP hS => ?_)
          obtain rfl := hr_98
          refine lv_if_ne (tgt := 88) hx hb dX11_readNext_84 (by decide) (fun c_100 => ?_) (fun c_100 => ?_)
          · skip
            have c_100 : (u_96.1 0) = 0 := bo_1.mp c_100
            exact absurd c_100 hg_97
          · skip
            have c_100 : ¬ ((u_96.1 0) = 0) := bo_0.mp c_100
            exact x_retv S hr hlk hQ hS ((fun i => ([mtoken, mvalue, (u_96.1 0), (u_96.1 1)] : List (Int32)).getD i 0), (fun i => ([mat, mfrom] : List (Nat)).getD i 0), (fun i => ([ffresh] : List (Nat → Int32)).getD i (fun _ => 0)), (fun i => ([] : List (Nat → Int64)).getD i (fun _ => 0)), (fun i => ([] : List (Int64)).getD i 0)) ⟨(show mat ≤ 600 by omega), (show mfrom ≤ 600 by omega), hkfresh, (show mfrom ≤ mfrom ∧ mfrom ≤ mat by omega), (fun hz => absurd hz c_100)⟩ (x_B hP hD) dX11_readNext_87
      · skip
        have c_62 : isW mfaultKind mtoken mat mfrom ftape 4 := isB_1.mp c_62
        exact absurd c_62 c_3
    · skip
      have c_58 : ¬ (isW mfaultKind mtoken mat mfrom ftape 7) := isB_0.mp c_58
      refine lv_aload_n hx hb dX11_readNext_18 rfl (lv_at hl 0 rfl) ?_
      refine x_ldcS S hZ lsX11_204 dX11_readNext_19 ?_
      refine x_roVi (As := [.ref (z 8)]) S hK hP hD hZ (fun _ h => h) hA hS hA hl mwX11_is lkX11_158 (ctX11_is l D k z n mthrown mtaped msize mat mfrom mtoken mvalue mfaultKind mfaultPlace mmoreMany mlawNow mwetSet moverAll mones mtwos mgone mroundNow msampleFor msampleAll maskWorst moftenAll moftenView moftenOnes ftape 8 (by omega) (by omega) (by omega) (by omega) (by omega) (by omega)) [0, 1] rfl (by decide) rfl rfl rfl rfl rfl ⟨Nat.le_of_ble_eq_true rfl, Nat.le_of_ble_eq_true rfl, Nat.le_of_ble_eq_true rfl⟩ dX11_readNext_21 ⟨Nat.le_of_ble_eq_true rfl, Nat.le_of_ble_eq_true rfl⟩ (fun r_101 H locs hr_101 hP hS => ?_)
      obtain rfl := hr_101
      refine lv_if_eq (tgt := 31) hx hb dX11_readNext_24 (by decide) (fun c_103 => ?_) (fun c_103 => ?_)
      · skip
        have c_103 : ¬ (isW mfaultKind mtoken mat mfrom ftape 8) := isB_0.mp c_103
        refine lv_iconst (v := 0) hx hb dX11_readNext_31 (by decide) ?_
        refine lv_istore_n (lv' := [(1, .int 0), (0, .ref (n 0))]) hx hb dX11_readNext_32 rfl hl (by decide) rfl (fun ls hl => ?_)
        refine lv_iload_n hx hb dX11_readNext_33 rfl (lv_at hl 0 rfl) ?_
        refine lv_if_eq (tgt := 63) hx hb dX11_readNext_34 (by decide) (fun c_104 => ?_) (fun c_104 => absurd (by decide) c_104)
        refine lv_aload_n hx hb dX11_readNext_63 rfl (lv_at hl 1 rfl) ?_
        refine lv_iconst (v := 1) hx hb dX11_readNext_64 (by decide) ?_
        refine x_muVv (wr := [((n 4), .inl (k 1, 600, .inl ftape)), ((n 6), .inl (k 0, 99, .inl ffresh))]) (As := [.int 1]) S hK hP hD hZ hS hA hl mwX11_errs lkX11_168 (ctX11_errs l D k z n mthrown mtaped msize mat mfrom mtoken mvalue mfaultKind mfaultPlace mmoreMany mlawNow mwetSet moverAll mones mtwos mgone mroundNow msampleFor msampleAll maskWorst moftenAll moftenView moftenOnes 1 (by omega) (by omega) (by omega) (by omega) (by omega) (by omega) (by omega)) [0] [1, 2] rfl rfl (by decide) (by decide) (by decide) rfl rfl rfl rfl rfl ⟨Nat.le_of_ble_eq_true rfl, Nat.le_of_ble_eq_true rfl, Nat.le_of_ble_eq_true rfl⟩ dX11_readNext_65 ⟨Nat.le_of_ble_eq_true rfl, Nat.le_of_ble_eq_true rfl⟩ (fun u_106 H locs hr_105 hP hD hS => ?_)
        have hP : va_P D vwCl [((n 0), .inr (11, [.int mthrown, .ref (n 1), .ref (n 2), .ref (n 3), .ref (n 4), .int (nI mtaped), .ref (n 5), .int (nI msize), .int (nI mat), .int (nI mfrom), .int mtoken, .int mvalue, .int (u_106.1 0), .int (u_106.1 1), .ref (n 6), .ref (n 7), .ref (n 8), .ref (n 9), .ref (n 10), .ref (n 11), .ref (n 12), .int (nI mmoreMany), .int mlawNow, .int mwetSet, .int moverAll, .ref (n 13), .ref (n 14), .ref (n 15), .int mones, .int mtwos, .int mgone, .ref (n 16), .ref (n 17), .int mroundNow, .ref (n 18), .long msampleFor, .long msampleAll, .ref (n 19), .int maskWorst, .long moftenAll, .long moftenView, .long moftenOnes, .ref (n 20), .ref (n 21), .ref (n 22), .ref (n 23)])), ((n 4), .inl (k 1, 600, .inl ftape)), ((n 6), .inl (k 0, 99, .inl ffresh))] H := hP.sub [2, 0, 1] rfl
        have hD : va_D A [((n 0), .inr (11, [.int mthrown, .ref (n 1), .ref (n 2), .ref (n 3), .ref (n 4), .int (nI mtaped), .ref (n 5), .int (nI msize), .int (nI mat), .int (nI mfrom), .int mtoken, .int mvalue, .int (u_106.1 0), .int (u_106.1 1), .ref (n 6), .ref (n 7), .ref (n 8), .ref (n 9), .ref (n 10), .ref (n 11), .ref (n 12), .int (nI mmoreMany), .int mlawNow, .int mwetSet, .int moverAll, .ref (n 13), .ref (n 14), .ref (n 15), .int mones, .int mtwos, .int mgone, .ref (n 16), .ref (n 17), .int mroundNow, .ref (n 18), .long msampleFor, .long msampleAll, .ref (n 19), .int maskWorst, .long moftenAll, .long moftenView, .long moftenOnes, .ref (n 20), .ref (n 21), .ref (n 22), .ref (n 23)])), ((n 4), .inl (k 1, 600, .inl ftape)), ((n 6), .inl (k 0, 99, .inl ffresh))] := hD.sub [2, 0, 1] (by decide) rfl
        have hg_107 := hr_105
        refine lv_aload_n hx hb dX11_readNext_68 rfl (lv_at hl 1 rfl) ?_
        refine x_roVi (As := []) S hK hP hD hZ (fun _ h => h) hA hS hA hl mwX11_isFull lkX11_206 (ctX11_isFull l D k z n mthrown mtaped msize mat mfrom mtoken mvalue (u_106.1 0) (u_106.1 1) mmoreMany mlawNow mwetSet moverAll mones mtwos mgone mroundNow msampleFor msampleAll maskWorst moftenAll moftenView moftenOnes ftape ffresh (by omega) (by omega) (by omega) (by omega) (by omega) (hkfresh)) [0, 1, 2] rfl (by decide) rfl rfl rfl rfl rfl ⟨Nat.le_of_ble_eq_true rfl, Nat.le_of_ble_eq_true rfl, Nat.le_of_ble_eq_true rfl⟩ dX11_readNext_69 ⟨Nat.le_of_ble_eq_true rfl, Nat.le_of_ble_eq_true rfl⟩ (fun r_108 H locs hr_108 hP hS => ?_)
        obtain ⟨hp_110, hz_111⟩ := hr_108
        refine lv_if_eq (tgt := 80) hx hb dX11_readNext_72 (by decide) (fun c_112 => ?_) (fun c_112 => ?_)
        · skip
          refine lv_aload_n hx hb dX11_readNext_80 rfl (lv_at hl 1 rfl) ?_
          refine x_roVi (As := []) S hK hP hD hZ (fun _ h => h) hA hS hA hl mwX11_good lkX11_146 (ctX11_good l D k z n mthrown mtaped msize mat mfrom mtoken mvalue (u_106.1 0) (u_106.1 1) mmoreMany mlawNow mwetSet moverAll mones mtwos mgone mroundNow msampleFor msampleAll maskWorst moftenAll moftenView moftenOnes (by omega) (by omega) (by omega) (by omega) (by omega)) [0] rfl (by decide) rfl rfl rfl rfl rfl ⟨Nat.le_of_ble_eq_true rfl, Nat.le_of_ble_eq_true rfl, Nat.le_of_ble_eq_true rfl⟩ dX11_readNext_81 ⟨Nat.le_of_ble_eq_true rfl, Nat.le_of_ble_eq_true rfl⟩ (fun r_113 H locs hr_113 hP hS => ?_)
          obtain rfl := hr_113
          refine lv_if_ne (tgt := 88) hx hb dX11_readNext_84 (by decide) (fun c_115 => ?_) (fun c_115 => ?_)
          · skip
            have c_115 : (u_106.1 0) = 0 := bo_1.mp c_115
            exact absurd c_115 hg_107
          · skip
            have c_115 : ¬ ((u_106.1 0) = 0) := bo_0.mp c_115
            exact x_retv S hr hlk hQ hS ((fun i => ([mtoken, mvalue, (u_106.1 0), (u_106.1 1)] : List (Int32)).getD i 0), (fun i => ([mat, mfrom] : List (Nat)).getD i 0), (fun i => ([ffresh] : List (Nat → Int32)).getD i (fun _ => 0)), (fun i => ([] : List (Nat → Int64)).getD i (fun _ => 0)), (fun i => ([] : List (Int64)).getD i 0)) ⟨(show mat ≤ 600 by omega), (show mfrom ≤ 600 by omega), hkfresh, (show mfrom ≤ mfrom ∧ mfrom ≤ mat by omega), (fun hz => absurd hz c_115)⟩ (x_B hP hD) dX11_readNext_87
        · skip
          refine lv_aload_n hx hb dX11_readNext_75 rfl (lv_at hl 1 rfl) ?_
          refine lv_iconst (v := 3) hx hb dX11_readNext_76 (by decide) ?_
          refine x_muVv (wr := [((n 4), .inl (k 1, 600, .inl ftape)), ((n 6), .inl (k 0, 99, .inl ffresh))]) (As := [.int 3]) S hK hP hD hZ hS hA hl mwX11_errs lkX11_168 (ctX11_errs l D k z n mthrown mtaped msize mat mfrom mtoken mvalue (u_106.1 0) (u_106.1 1) mmoreMany mlawNow mwetSet moverAll mones mtwos mgone mroundNow msampleFor msampleAll maskWorst moftenAll moftenView moftenOnes 3 (by omega) (by omega) (by omega) (by omega) (by omega) (by omega) (by omega)) [0] [1, 2] rfl rfl (by decide) (by decide) (by decide) rfl rfl rfl rfl rfl ⟨Nat.le_of_ble_eq_true rfl, Nat.le_of_ble_eq_true rfl, Nat.le_of_ble_eq_true rfl⟩ dX11_readNext_77 ⟨Nat.le_of_ble_eq_true rfl, Nat.le_of_ble_eq_true rfl⟩ (fun u_117 H locs hr_116 hP hD hS => ?_)
          have hP : va_P D vwCl [((n 0), .inr (11, [.int mthrown, .ref (n 1), .ref (n 2), .ref (n 3), .ref (n 4), .int (nI mtaped), .ref (n 5), .int (nI msize), .int (nI mat), .int (nI mfrom), .int mtoken, .int mvalue, .int (u_117.1 0), .int (u_117.1 1), .ref (n 6), .ref (n 7), .ref (n 8), .ref (n 9), .ref (n 10), .ref (n 11), .ref (n 12), .int (nI mmoreMany), .int mlawNow, .int mwetSet, .int moverAll, .ref (n 13), .ref (n 14), .ref (n 15), .int mones, .int mtwos, .int mgone, .ref (n 16), .ref (n 17), .int mroundNow, .ref (n 18), .long msampleFor, .long msampleAll, .ref (n 19), .int maskWorst, .long moftenAll, .long moftenView, .long moftenOnes, .ref (n 20), .ref (n 21), .ref (n 22), .ref (n 23)])), ((n 4), .inl (k 1, 600, .inl ftape)), ((n 6), .inl (k 0, 99, .inl ffresh))] H := hP.sub [2, 0, 1] rfl
          have hD : va_D A [((n 0), .inr (11, [.int mthrown, .ref (n 1), .ref (n 2), .ref (n 3), .ref (n 4), .int (nI mtaped), .ref (n 5), .int (nI msize), .int (nI mat), .int (nI mfrom), .int mtoken, .int mvalue, .int (u_117.1 0), .int (u_117.1 1), .ref (n 6), .ref (n 7), .ref (n 8), .ref (n 9), .ref (n 10), .ref (n 11), .ref (n 12), .int (nI mmoreMany), .int mlawNow, .int mwetSet, .int moverAll, .ref (n 13), .ref (n 14), .ref (n 15), .int mones, .int mtwos, .int mgone, .ref (n 16), .ref (n 17), .int mroundNow, .ref (n 18), .long msampleFor, .long msampleAll, .ref (n 19), .int maskWorst, .long moftenAll, .long moftenView, .long moftenOnes, .ref (n 20), .ref (n 21), .ref (n 22), .ref (n 23)])), ((n 4), .inl (k 1, 600, .inl ftape)), ((n 6), .inl (k 0, 99, .inl ffresh))] := hD.sub [2, 0, 1] (by decide) rfl
          have hg_118 := hr_116
          refine lv_aload_n hx hb dX11_readNext_80 rfl (lv_at hl 1 rfl) ?_
          refine x_roVi (As := []) S hK hP hD hZ (fun _ h => h) hA hS hA hl mwX11_good lkX11_146 (ctX11_good l D k z n mthrown mtaped msize mat mfrom mtoken mvalue (u_117.1 0) (u_117.1 1) mmoreMany mlawNow mwetSet moverAll mones mtwos mgone mroundNow msampleFor msampleAll maskWorst moftenAll moftenView moftenOnes (by omega) (by omega) (by omega) (by omega) (by omega)) [0] rfl (by decide) rfl rfl rfl rfl rfl ⟨Nat.le_of_ble_eq_true rfl, Nat.le_of_ble_eq_true rfl, Nat.le_of_ble_eq_true rfl⟩ dX11_readNext_81 ⟨Nat.le_of_ble_eq_true rfl, Nat.le_of_ble_eq_true rfl⟩ (fun r_119 H locs hr_119 hP hS => ?_)
          obtain rfl := hr_119
          refine lv_if_ne (tgt := 88) hx hb dX11_readNext_84 (by decide) (fun c_121 => ?_) (fun c_121 => ?_)
          · skip
            have c_121 : (u_117.1 0) = 0 := bo_1.mp c_121
            exact absurd c_121 hg_118
          · skip
            have c_121 : ¬ ((u_117.1 0) = 0) := bo_0.mp c_121
            exact x_retv S hr hlk hQ hS ((fun i => ([mtoken, mvalue, (u_117.1 0), (u_117.1 1)] : List (Int32)).getD i 0), (fun i => ([mat, mfrom] : List (Nat)).getD i 0), (fun i => ([ffresh] : List (Nat → Int32)).getD i (fun _ => 0)), (fun i => ([] : List (Nat → Int64)).getD i (fun _ => 0)), (fun i => ([] : List (Int64)).getD i 0)) ⟨(show mat ≤ 600 by omega), (show mfrom ≤ 600 by omega), hkfresh, (show mfrom ≤ mfrom ∧ mfrom ≤ mat by omega), (fun hz => absurd hz c_121)⟩ (x_B hP hD) dX11_readNext_87
      · skip
        have c_103 : isW mfaultKind mtoken mat mfrom ftape 8 := isB_1.mp c_103
        refine lv_iconst (v := 1) hx hb dX11_readNext_27 (by decide) ?_
        refine lv_goto (tgt := 32) hx hb dX11_readNext_28 (by decide) ?_
        refine lv_istore_n (lv' := [(1, .int 1), (0, .ref (n 0))]) hx hb dX11_readNext_32 rfl hl (by decide) rfl (fun ls hl => ?_)
        refine lv_iload_n hx hb dX11_readNext_33 rfl (lv_at hl 0 rfl) ?_
        refine lv_if_eq (tgt := 63) hx hb dX11_readNext_34 (by decide) (fun c_122 => absurd c_122 (by decide)) (fun c_122 => ?_)
        refine lv_aload_n hx hb dX11_readNext_37 rfl (lv_at hl 1 rfl) ?_
        refine x_ldcS S hZ lsX11_200 dX11_readNext_38 ?_
        refine x_roVi (As := [.ref (z 4)]) S hK hP hD hZ (fun _ h => h) hA hS hA hl mwX11_is lkX11_158 (ctX11_is l D k z n mthrown mtaped msize mat mfrom mtoken mvalue mfaultKind mfaultPlace mmoreMany mlawNow mwetSet moverAll mones mtwos mgone mroundNow msampleFor msampleAll maskWorst moftenAll moftenView moftenOnes ftape 4 (by omega) (by omega) (by omega) (by omega) (by omega) (by omega)) [0, 1] rfl (by decide) rfl rfl rfl rfl rfl ⟨Nat.le_of_ble_eq_true rfl, Nat.le_of_ble_eq_true rfl, Nat.le_of_ble_eq_true rfl⟩ dX11_readNext_40 ⟨Nat.le_of_ble_eq_true rfl, Nat.le_of_ble_eq_true rfl⟩ (fun r_123 H locs hr_123 hP hS => ?_)
        obtain rfl := hr_123
        refine lv_if_eq (tgt := 68) hx hb dX11_readNext_43 (by decide) (fun c_125 => ?_) (fun c_125 => ?_)
        · skip
          have c_125 : ¬ (isW mfaultKind mtoken mat mfrom ftape 4) := isB_0.mp c_125
          refine lv_aload_n hx hb dX11_readNext_68 rfl (lv_at hl 1 rfl) ?_
          refine x_roVi (As := []) S hK hP hD hZ (fun _ h => h) hA hS hA hl mwX11_isFull lkX11_206 (ctX11_isFull l D k z n mthrown mtaped msize mat mfrom mtoken mvalue mfaultKind mfaultPlace mmoreMany mlawNow mwetSet moverAll mones mtwos mgone mroundNow msampleFor msampleAll maskWorst moftenAll moftenView moftenOnes ftape ffresh (by omega) (by omega) (by omega) (by omega) (by omega) (hkfresh)) [0, 1, 2] rfl (by decide) rfl rfl rfl rfl rfl ⟨Nat.le_of_ble_eq_true rfl, Nat.le_of_ble_eq_true rfl, Nat.le_of_ble_eq_true rfl⟩ dX11_readNext_69 ⟨Nat.le_of_ble_eq_true rfl, Nat.le_of_ble_eq_true rfl⟩ (fun r_126 H locs hr_126 hP hS => ?_)
          obtain ⟨hp_128, hz_129⟩ := hr_126
          refine lv_if_eq (tgt := 80) hx hb dX11_readNext_72 (by decide) (fun c_130 => ?_) (fun c_130 => ?_)
          · skip
            refine lv_aload_n hx hb dX11_readNext_80 rfl (lv_at hl 1 rfl) ?_
            refine x_roVi (As := []) S hK hP hD hZ (fun _ h => h) hA hS hA hl mwX11_good lkX11_146 (ctX11_good l D k z n mthrown mtaped msize mat mfrom mtoken mvalue mfaultKind mfaultPlace mmoreMany mlawNow mwetSet moverAll mones mtwos mgone mroundNow msampleFor msampleAll maskWorst moftenAll moftenView moftenOnes (by omega) (by omega) (by omega) (by omega) (by omega)) [0] rfl (by decide) rfl rfl rfl rfl rfl ⟨Nat.le_of_ble_eq_true rfl, Nat.le_of_ble_eq_true rfl, Nat.le_of_ble_eq_true rfl⟩ dX11_readNext_81 ⟨Nat.le_of_ble_eq_true rfl, Nat.le_of_ble_eq_true rfl⟩ (fun r_131 H locs hr_131 hP hS => ?_)
            obtain rfl := hr_131
            refine lv_if_ne (tgt := 88) hx hb dX11_readNext_84 (by decide) (fun c_133 => ?_) (fun c_133 => ?_)
            · skip
              have c_133 : mfaultKind = 0 := bo_1.mp c_133
              refine lv_aload_n hx hb dX11_readNext_88 rfl (lv_at hl 1 rfl) ?_
              refine x_ldcS S hZ lsX11_200 dX11_readNext_89 ?_
              refine x_muVi (wr := [((n 6), .inl (k 0, 99, .inl ffresh))]) (As := [.ref (z 4)]) S hK hP hD hZ hS hA hl mwX11_takes lkX11_165 (ctX11_takes l D k z n mthrown mtaped msize mat mfrom mtoken mvalue mfaultKind mfaultPlace mmoreMany mlawNow mwetSet moverAll mones mtwos mgone mroundNow msampleFor msampleAll maskWorst moftenAll moftenView moftenOnes ftape 4 (by omega) (by omega) (by omega) (by omega) (by omega) (by omega) (by omega)) [0, 1] [2] rfl rfl (by decide) (by decide) (by decide) rfl rfl rfl rfl rfl ⟨Nat.le_of_ble_eq_true rfl, Nat.le_of_ble_eq_true rfl, Nat.le_of_ble_eq_true rfl⟩ dX11_readNext_91 ⟨Nat.le_of_ble_eq_true rfl, Nat.le_of_ble_eq_true rfl⟩ (fun r_134 u_135 H locs hr_134 hP hD hS => ?_)
              have hP : va_P D vwCl [((n 0), .inr (11, [.int mthrown, .ref (n 1), .ref (n 2), .ref (n 3), .ref (n 4), .int (nI mtaped), .ref (n 5), .int (nI msize), .int (nI (u_135.2.1 0)), .int (nI (u_135.2.1 1)), .int (u_135.1 0), .int (u_135.1 1), .int mfaultKind, .int mfaultPlace, .ref (n 6), .ref (n 7), .ref (n 8), .ref (n 9), .ref (n 10), .ref (n 11), .ref (n 12), .int (nI mmoreMany), .int mlawNow, .int mwetSet, .int moverAll, .ref (n 13), .ref (n 14), .ref (n 15), .int mones, .int mtwos, .int mgone, .ref (n 16), .ref (n 17), .int mroundNow, .ref (n 18), .long msampleFor, .long msampleAll, .ref (n 19), .int maskWorst, .long moftenAll, .long moftenView, .long moftenOnes, .ref (n 20), .ref (n 21), .ref (n 22), .ref (n 23)])), ((n 4), .inl (k 1, 600, .inl ftape)), ((n 6), .inl (k 0, 99, .inl ffresh))] H := hP.sub [1, 2, 0] rfl
              have hD : va_D A [((n 0), .inr (11, [.int mthrown, .ref (n 1), .ref (n 2), .ref (n 3), .ref (n 4), .int (nI mtaped), .ref (n 5), .int (nI msize), .int (nI (u_135.2.1 0)), .int (nI (u_135.2.1 1)), .int (u_135.1 0), .int (u_135.1 1), .int mfaultKind, .int mfaultPlace, .ref (n 6), .ref (n 7), .ref (n 8), .ref (n 9), .ref (n 10), .ref (n 11), .ref (n 12), .int (nI mmoreMany), .int mlawNow, .int mwetSet, .int moverAll, .ref (n 13), .ref (n 14), .ref (n 15), .int mones, .int mtwos, .int mgone, .ref (n 16), .ref (n 17), .int mroundNow, .ref (n 18), .long msampleFor, .long msampleAll, .ref (n 19), .int maskWorst, .long moftenAll, .long moftenView, .long moftenOnes, .ref (n 20), .ref (n 21), .ref (n 22), .ref (n 23)])), ((n 4), .inl (k 1, 600, .inl ftape)), ((n 6), .inl (k 0, 99, .inl ffresh))] := hD.sub [1, 2, 0] (by decide) rfl
              obtain ⟨rfl, hg_136, hg_137, hg_138, hg_139, hg_140⟩ := hr_134
              refine lv_if_eq (tgt := 104) hx hb dX11_readNext_94 (by decide) (fun c_141 => ?_) (fun c_141 => ?_)
              · skip
                have c_141 : ¬ (isW mfaultKind mtoken mat mfrom ftape 4) := isB_0.mp c_141
                obtain ⟨et, ea, ef⟩ := hg_140.resolve_left c_3
                refine lv_aload_n hx hb dX11_readNext_104 rfl (lv_at hl 1 rfl) ?_
                refine x_ldcS S hZ lsX11_202 dX11_readNext_105 ?_
                refine x_muVi (wr := [((n 6), .inl (k 0, 99, .inl ffresh))]) (As := [.ref (z 7)]) S hK hP hD hZ hS hA hl mwX11_takes lkX11_165 (ctX11_takes l D k z n mthrown mtaped msize (u_135.2.1 0) (u_135.2.1 1) (u_135.1 0) (u_135.1 1) mfaultKind mfaultPlace mmoreMany mlawNow mwetSet moverAll mones mtwos mgone mroundNow msampleFor msampleAll maskWorst moftenAll moftenView moftenOnes ftape 7 (by omega) (by omega) (by omega) (by omega) (by omega) (by omega) (by omega)) [0, 1] [2] rfl rfl (by decide) (by decide) (by decide) rfl rfl rfl rfl rfl ⟨Nat.le_of_ble_eq_true rfl, Nat.le_of_ble_eq_true rfl, Nat.le_of_ble_eq_true rfl⟩ dX11_readNext_107 ⟨Nat.le_of_ble_eq_true rfl, Nat.le_of_ble_eq_true rfl⟩ (fun r_142 u_143 H locs hr_142 hP hD hS => ?_)
                have hP : va_P D vwCl [((n 0), .inr (11, [.int mthrown, .ref (n 1), .ref (n 2), .ref (n 3), .ref (n 4), .int (nI mtaped), .ref (n 5), .int (nI msize), .int (nI (u_143.2.1 0)), .int (nI (u_143.2.1 1)), .int (u_143.1 0), .int (u_143.1 1), .int mfaultKind, .int mfaultPlace, .ref (n 6), .ref (n 7), .ref (n 8), .ref (n 9), .ref (n 10), .ref (n 11), .ref (n 12), .int (nI mmoreMany), .int mlawNow, .int mwetSet, .int moverAll, .ref (n 13), .ref (n 14), .ref (n 15), .int mones, .int mtwos, .int mgone, .ref (n 16), .ref (n 17), .int mroundNow, .ref (n 18), .long msampleFor, .long msampleAll, .ref (n 19), .int maskWorst, .long moftenAll, .long moftenView, .long moftenOnes, .ref (n 20), .ref (n 21), .ref (n 22), .ref (n 23)])), ((n 4), .inl (k 1, 600, .inl ftape)), ((n 6), .inl (k 0, 99, .inl ffresh))] H := hP.sub [1, 2, 0] rfl
                have hD : va_D A [((n 0), .inr (11, [.int mthrown, .ref (n 1), .ref (n 2), .ref (n 3), .ref (n 4), .int (nI mtaped), .ref (n 5), .int (nI msize), .int (nI (u_143.2.1 0)), .int (nI (u_143.2.1 1)), .int (u_143.1 0), .int (u_143.1 1), .int mfaultKind, .int mfaultPlace, .ref (n 6), .ref (n 7), .ref (n 8), .ref (n 9), .ref (n 10), .ref (n 11), .ref (n 12), .int (nI mmoreMany), .int mlawNow, .int mwetSet, .int moverAll, .ref (n 13), .ref (n 14), .ref (n 15), .int mones, .int mtwos, .int mgone, .ref (n 16), .ref (n 17), .int mroundNow, .ref (n 18), .long msampleFor, .long msampleAll, .ref (n 19), .int maskWorst, .long moftenAll, .long moftenView, .long moftenOnes, .ref (n 20), .ref (n 21), .ref (n 22), .ref (n 23)])), ((n 4), .inl (k 1, 600, .inl ftape)), ((n 6), .inl (k 0, 99, .inl ffresh))] := hD.sub [1, 2, 0] (by decide) rfl
                obtain ⟨rfl, hg_144, hg_145, hg_146, hg_147, hg_148⟩ := hr_142
                refine lv_if_eq (tgt := 120) hx hb dX11_readNext_110 (by decide) (fun c_149 => ?_) (fun c_149 => ?_)
                · skip
                  have c_149 : ¬ (isW mfaultKind (u_135.1 0) (u_135.2.1 0) (u_135.2.1 1) ftape 7) := isB_0.mp c_149
                  refine lv_aload_n hx hb dX11_readNext_120 rfl (lv_at hl 1 rfl) ?_
                  refine x_muVv (wr := [((n 6), .inl (k 0, 99, .inl ffresh))]) (As := []) S hK hP hD hZ hS hA hl mwX11_advance lkX11_162 (ctX11_advance l D k z n mthrown mtaped msize (u_143.2.1 0) (u_143.2.1 1) (u_143.1 0) (u_143.1 1) mfaultKind mfaultPlace mmoreMany mlawNow mwetSet moverAll mones mtwos mgone mroundNow msampleFor msampleAll maskWorst moftenAll moftenView moftenOnes ftape (by omega) (by omega) (by omega) (by omega) (by omega)) [0, 1] [2] rfl rfl (by decide) (by decide) (by decide) rfl rfl rfl rfl rfl ⟨Nat.le_of_ble_eq_true rfl, Nat.le_of_ble_eq_true rfl, Nat.le_of_ble_eq_true rfl⟩ dX11_readNext_121 ⟨Nat.le_of_ble_eq_true rfl, Nat.le_of_ble_eq_true rfl⟩ (fun u_151 H locs hr_150 hP hD hS => ?_)
                  have hP : va_P D vwCl [((n 0), .inr (11, [.int mthrown, .ref (n 1), .ref (n 2), .ref (n 3), .ref (n 4), .int (nI mtaped), .ref (n 5), .int (nI msize), .int (nI (u_151.2.1 0)), .int (nI (u_151.2.1 1)), .int (u_151.1 0), .int (u_151.1 1), .int mfaultKind, .int mfaultPlace, .ref (n 6), .ref (n 7), .ref (n 8), .ref (n 9), .ref (n 10), .ref (n 11), .ref (n 12), .int (nI mmoreMany), .int mlawNow, .int mwetSet, .int moverAll, .ref (n 13), .ref (n 14), .ref (n 15), .int mones, .int mtwos, .int mgone, .ref (n 16), .ref (n 17), .int mroundNow, .ref (n 18), .long msampleFor, .long msampleAll, .ref (n 19), .int maskWorst, .long moftenAll, .long moftenView, .long moftenOnes, .ref (n 20), .ref (n 21), .ref (n 22), .ref (n 23)])), ((n 4), .inl (k 1, 600, .inl ftape)), ((n 6), .inl (k 0, 99, .inl ffresh))] H := hP.sub [1, 2, 0] rfl
                  have hD : va_D A [((n 0), .inr (11, [.int mthrown, .ref (n 1), .ref (n 2), .ref (n 3), .ref (n 4), .int (nI mtaped), .ref (n 5), .int (nI msize), .int (nI (u_151.2.1 0)), .int (nI (u_151.2.1 1)), .int (u_151.1 0), .int (u_151.1 1), .int mfaultKind, .int mfaultPlace, .ref (n 6), .ref (n 7), .ref (n 8), .ref (n 9), .ref (n 10), .ref (n 11), .ref (n 12), .int (nI mmoreMany), .int mlawNow, .int mwetSet, .int moverAll, .ref (n 13), .ref (n 14), .ref (n 15), .int mones, .int mtwos, .int mgone, .ref (n 16), .ref (n 17), .int mroundNow, .ref (n 18), .long msampleFor, .long msampleAll, .ref (n 19), .int maskWorst, .long moftenAll, .long moftenView, .long moftenOnes, .ref (n 20), .ref (n 21), .ref (n 22), .ref (n 23)])), ((n 4), .inl (k 1, 600, .inl ftape)), ((n 6), .inl (k 0, 99, .inl ffresh))] := hD.sub [1, 2, 0] (by decide) rfl
                  obtain ⟨hg_152, hg_153, hg_154⟩ := hr_150
                  have hroom := (hp_128.resolve_left (fun q => q c_130)).2.2 c_103
                  refine lv_aload_n hx hb dX11_readNext_124 rfl (lv_at hl 1 rfl) ?_
                  refine x_muVv (wr := []) (As := []) S hK hP hD hZ hS hA hl mwX11_readSlug lkX11_215 (ctX11_readSlug l D k z n mthrown mtaped msize (u_151.2.1 0) (u_151.2.1 1) (u_151.1 0) (u_151.1 1) mfaultKind mfaultPlace mmoreMany mlawNow mwetSet moverAll mones mtwos mgone mroundNow msampleFor msampleAll maskWorst moftenAll moftenView moftenOnes ftape ffresh (by omega) (by omega) (by omega) (by omega) (by omega) (hkfresh) (by omega) (by omega)) [0, 1, 2] [] rfl rfl (by decide) (by decide) (by decide) rfl rfl rfl rfl rfl ⟨Nat.le_of_ble_eq_true rfl, Nat.le_of_ble_eq_true rfl, Nat.le_of_ble_eq_true rfl⟩ dX11_readNext_125 ⟨Nat.le_of_ble_eq_true rfl, Nat.le_of_ble_eq_true rfl⟩ (fun u_156 H locs hr_155 hP hD hS => ?_)
                  have hP : va_P D vwCl [((n 0), .inr (11, [.int mthrown, .ref (n 1), .ref (n 2), .ref (n 3), .ref (n 4), .int (nI mtaped), .ref (n 5), .int (nI msize), .int (nI (u_156.2.1 0)), .int (nI (u_156.2.1 1)), .int (u_156.1 0), .int (u_156.1 1), .int (u_156.1 2), .int (u_156.1 3), .ref (n 6), .ref (n 7), .ref (n 8), .ref (n 9), .ref (n 10), .ref (n 11), .ref (n 12), .int (nI mmoreMany), .int mlawNow, .int mwetSet, .int moverAll, .ref (n 13), .ref (n 14), .ref (n 15), .int mones, .int mtwos, .int mgone, .ref (n 16), .ref (n 17), .int mroundNow, .ref (n 18), .long msampleFor, .long msampleAll, .ref (n 19), .int maskWorst, .long moftenAll, .long moftenView, .long moftenOnes, .ref (n 20), .ref (n 21), .ref (n 22), .ref (n 23)])), ((n 4), .inl (k 1, 600, .inl ftape)), ((n 6), .inl (k 0, 99, .inl (u_156.2.2.1 0)))] H := hP.sub [0, 1, 2] rfl
                  have hD : va_D A [((n 0), .inr (11, [.int mthrown, .ref (n 1), .ref (n 2), .ref (n 3), .ref (n 4), .int (nI mtaped), .ref (n 5), .int (nI msize), .int (nI (u_156.2.1 0)), .int (nI (u_156.2.1 1)), .int (u_156.1 0), .int (u_156.1 1), .int (u_156.1 2), .int (u_156.1 3), .ref (n 6), .ref (n 7), .ref (n 8), .ref (n 9), .ref (n 10), .ref (n 11), .ref (n 12), .int (nI mmoreMany), .int mlawNow, .int mwetSet, .int moverAll, .ref (n 13), .ref (n 14), .ref (n 15), .int mones, .int mtwos, .int mgone, .ref (n 16), .ref (n 17), .int mroundNow, .ref (n 18), .long msampleFor, .long msampleAll, .ref (n 19), .int maskWorst, .long moftenAll, .long moftenView, .long moftenOnes, .ref (n 20), .ref (n 21), .ref (n 22), .ref (n 23)])), ((n 4), .inl (k 1, 600, .inl ftape)), ((n 6), .inl (k 0, 99, .inl (u_156.2.2.1 0)))] := hD.sub [0, 1, 2] (by decide) rfl
                  obtain ⟨hg_157, hg_158, hi_159, hg_160, hg_161⟩ := hr_155
                  have hbhi_159 := okW_bd hi_159
                  exact x_retv S hr hlk hQ hS ((fun i => ([(u_156.1 0), (u_156.1 1), (u_156.1 2), (u_156.1 3)] : List (Int32)).getD i 0), (fun i => ([u_156.2.1 0, u_156.2.1 1] : List (Nat)).getD i 0), (fun i => ([(u_156.2.2.1 0)] : List (Nat → Int32)).getD i (fun _ => 0)), (fun i => ([] : List (Nat → Int64)).getD i (fun _ => 0)), (fun i => ([] : List (Int64)).getD i 0)) ⟨(show u_156.2.1 0 ≤ 600 by omega), (show u_156.2.1 1 ≤ 600 by omega), hi_159, (show mfrom ≤ u_156.2.1 1 ∧ u_156.2.1 1 ≤ u_156.2.1 0 by omega), (fun hz => (show mfaultKind = 0 ∧ mfrom < u_156.2.1 1 by have k_162 := hg_161 hz; exact ⟨k_162.1, by omega⟩))⟩ (x_B hP hD) dX11_readNext_128
                · skip
                  have c_149 : isW mfaultKind (u_135.1 0) (u_135.2.1 0) (u_135.2.1 1) ftape 7 := isB_1.mp c_149
                  have cw2 : isW mfaultKind mtoken mat mfrom ftape 7 := by rw [et, ea, ef] at c_149; exact c_149
                  have hroom := (hp_128.resolve_left (fun q => q c_130)).2.1 cw2
                  refine lv_aload_n hx hb dX11_readNext_113 rfl (lv_at hl 1 rfl) ?_
                  refine x_muVv (wr := []) (As := []) S hK hP hD hZ hS hA hl mwX11_readSay lkX11_212 (ctX11_readSay l D k z n mthrown mtaped msize (u_143.2.1 0) (u_143.2.1 1) (u_143.1 0) (u_143.1 1) mfaultKind mfaultPlace mmoreMany mlawNow mwetSet moverAll mones mtwos mgone mroundNow msampleFor msampleAll maskWorst moftenAll moftenView moftenOnes ftape ffresh (by omega) (by omega) (by omega) (by omega) (by omega) (hkfresh) (by omega) (by omega)) [0, 1, 2] [] rfl rfl (by decide) (by decide) (by decide) rfl rfl rfl rfl rfl ⟨Nat.le_of_ble_eq_true rfl, Nat.le_of_ble_eq_true rfl, Nat.le_of_ble_eq_true rfl⟩ dX11_readNext_114 ⟨Nat.le_of_ble_eq_true rfl, Nat.le_of_ble_eq_true rfl⟩ (fun u_164 H locs hr_163 hP hD hS => ?_)
                  have hP : va_P D vwCl [((n 0), .inr (11, [.int mthrown, .ref (n 1), .ref (n 2), .ref (n 3), .ref (n 4), .int (nI mtaped), .ref (n 5), .int (nI msize), .int (nI (u_164.2.1 0)), .int (nI (u_164.2.1 1)), .int (u_164.1 0), .int (u_164.1 1), .int (u_164.1 2), .int (u_164.1 3), .ref (n 6), .ref (n 7), .ref (n 8), .ref (n 9), .ref (n 10), .ref (n 11), .ref (n 12), .int (nI mmoreMany), .int mlawNow, .int mwetSet, .int moverAll, .ref (n 13), .ref (n 14), .ref (n 15), .int mones, .int mtwos, .int mgone, .ref (n 16), .ref (n 17), .int mroundNow, .ref (n 18), .long msampleFor, .long msampleAll, .ref (n 19), .int maskWorst, .long moftenAll, .long moftenView, .long moftenOnes, .ref (n 20), .ref (n 21), .ref (n 22), .ref (n 23)])), ((n 4), .inl (k 1, 600, .inl ftape)), ((n 6), .inl (k 0, 99, .inl (u_164.2.2.1 0)))] H := hP.sub [0, 1, 2] rfl
                  have hD : va_D A [((n 0), .inr (11, [.int mthrown, .ref (n 1), .ref (n 2), .ref (n 3), .ref (n 4), .int (nI mtaped), .ref (n 5), .int (nI msize), .int (nI (u_164.2.1 0)), .int (nI (u_164.2.1 1)), .int (u_164.1 0), .int (u_164.1 1), .int (u_164.1 2), .int (u_164.1 3), .ref (n 6), .ref (n 7), .ref (n 8), .ref (n 9), .ref (n 10), .ref (n 11), .ref (n 12), .int (nI mmoreMany), .int mlawNow, .int mwetSet, .int moverAll, .ref (n 13), .ref (n 14), .ref (n 15), .int mones, .int mtwos, .int mgone, .ref (n 16), .ref (n 17), .int mroundNow, .ref (n 18), .long msampleFor, .long msampleAll, .ref (n 19), .int maskWorst, .long moftenAll, .long moftenView, .long moftenOnes, .ref (n 20), .ref (n 21), .ref (n 22), .ref (n 23)])), ((n 4), .inl (k 1, 600, .inl ftape)), ((n 6), .inl (k 0, 99, .inl (u_164.2.2.1 0)))] := hD.sub [0, 1, 2] (by decide) rfl
                  obtain ⟨hg_165, hg_166, hi_167, hg_168, hg_169⟩ := hr_163
                  have hbhi_167 := okW_bd hi_167
                  refine lv_goto (tgt := 128) hx hb dX11_readNext_117 (by decide) ?_
                  exact x_retv S hr hlk hQ hS ((fun i => ([(u_164.1 0), (u_164.1 1), (u_164.1 2), (u_164.1 3)] : List (Int32)).getD i 0), (fun i => ([u_164.2.1 0, u_164.2.1 1] : List (Nat)).getD i 0), (fun i => ([(u_164.2.2.1 0)] : List (Nat → Int32)).getD i (fun _ => 0)), (fun i => ([] : List (Nat → Int64)).getD i (fun _ => 0)), (fun i => ([] : List (Int64)).getD i 0)) ⟨(show u_164.2.1 0 ≤ 600 by omega), (show u_164.2.1 1 ≤ 600 by omega), hi_167, (show mfrom ≤ u_164.2.1 1 ∧ u_164.2.1 1 ≤ u_164.2.1 0 by omega), (fun hz => (show mfaultKind = 0 ∧ mfrom < u_164.2.1 1 by have k_170 := hg_169 hz; exact ⟨k_170.1, by omega⟩))⟩ (x_B hP hD) dX11_readNext_128
              · skip
                have c_141 : isW mfaultKind mtoken mat mfrom ftape 4 := isB_1.mp c_141
                exact absurd c_141 c_125
            · skip
              have c_133 : ¬ (mfaultKind = 0) := bo_0.mp c_133
              exact x_retv S hr hlk hQ hS ((fun i => ([mtoken, mvalue, mfaultKind, mfaultPlace] : List (Int32)).getD i 0), (fun i => ([mat, mfrom] : List (Nat)).getD i 0), (fun i => ([ffresh] : List (Nat → Int32)).getD i (fun _ => 0)), (fun i => ([] : List (Nat → Int64)).getD i (fun _ => 0)), (fun i => ([] : List (Int64)).getD i 0)) ⟨(show mat ≤ 600 by omega), (show mfrom ≤ 600 by omega), hkfresh, (show mfrom ≤ mfrom ∧ mfrom ≤ mat by omega), (fun hz => absurd hz c_133)⟩ (x_B hP hD) dX11_readNext_87
          · skip
            refine lv_aload_n hx hb dX11_readNext_75 rfl (lv_at hl 1 rfl) ?_
            refine lv_iconst (v := 3) hx hb dX11_readNext_76 (by decide) ?_
            refine x_muVv (wr := [((n 4), .inl (k 1, 600, .inl ftape)), ((n 6), .inl (k 0, 99, .inl ffresh))]) (As := [.int 3]) S hK hP hD hZ hS hA hl mwX11_errs lkX11_168 (ctX11_errs l D k z n mthrown mtaped msize mat mfrom mtoken mvalue mfaultKind mfaultPlace mmoreMany mlawNow mwetSet moverAll mones mtwos mgone mroundNow msampleFor msampleAll maskWorst moftenAll moftenView moftenOnes 3 (by omega) (by omega) (by omega) (by omega) (by omega) (by omega) (by omega)) [0] [1, 2] rfl rfl (by decide) (by decide) (by decide) rfl rfl rfl rfl rfl ⟨Nat.le_of_ble_eq_true rfl, Nat.le_of_ble_eq_true rfl, Nat.le_of_ble_eq_true rfl⟩ dX11_readNext_77 ⟨Nat.le_of_ble_eq_true rfl, Nat.le_of_ble_eq_true rfl⟩ (fun u_172 H locs hr_171 hP hD hS => ?_)
            have hP : va_P D vwCl [((n 0), .inr (11, [.int mthrown, .ref (n 1), .ref (n 2), .ref (n 3), .ref (n 4), .int (nI mtaped), .ref (n 5), .int (nI msize), .int (nI mat), .int (nI mfrom), .int mtoken, .int mvalue, .int (u_172.1 0), .int (u_172.1 1), .ref (n 6), .ref (n 7), .ref (n 8), .ref (n 9), .ref (n 10), .ref (n 11), .ref (n 12), .int (nI mmoreMany), .int mlawNow, .int mwetSet, .int moverAll, .ref (n 13), .ref (n 14), .ref (n 15), .int mones, .int mtwos, .int mgone, .ref (n 16), .ref (n 17), .int mroundNow, .ref (n 18), .long msampleFor, .long msampleAll, .ref (n 19), .int maskWorst, .long moftenAll, .long moftenView, .long moftenOnes, .ref (n 20), .ref (n 21), .ref (n 22), .ref (n 23)])), ((n 4), .inl (k 1, 600, .inl ftape)), ((n 6), .inl (k 0, 99, .inl ffresh))] H := hP.sub [2, 0, 1] rfl
            have hD : va_D A [((n 0), .inr (11, [.int mthrown, .ref (n 1), .ref (n 2), .ref (n 3), .ref (n 4), .int (nI mtaped), .ref (n 5), .int (nI msize), .int (nI mat), .int (nI mfrom), .int mtoken, .int mvalue, .int (u_172.1 0), .int (u_172.1 1), .ref (n 6), .ref (n 7), .ref (n 8), .ref (n 9), .ref (n 10), .ref (n 11), .ref (n 12), .int (nI mmoreMany), .int mlawNow, .int mwetSet, .int moverAll, .ref (n 13), .ref (n 14), .ref (n 15), .int mones, .int mtwos, .int mgone, .ref (n 16), .ref (n 17), .int mroundNow, .ref (n 18), .long msampleFor, .long msampleAll, .ref (n 19), .int maskWorst, .long moftenAll, .long moftenView, .long moftenOnes, .ref (n 20), .ref (n 21), .ref (n 22), .ref (n 23)])), ((n 4), .inl (k 1, 600, .inl ftape)), ((n 6), .inl (k 0, 99, .inl ffresh))] := hD.sub [2, 0, 1] (by decide) rfl
            have hg_173 := hr_171
            refine lv_aload_n hx hb dX11_readNext_80 rfl (lv_at hl 1 rfl) ?_
            refine x_roVi (As := []) S hK hP hD hZ (fun _ h => h) hA hS hA hl mwX11_good lkX11_146 (ctX11_good l D k z n mthrown mtaped msize mat mfrom mtoken mvalue (u_172.1 0) (u_172.1 1) mmoreMany mlawNow mwetSet moverAll mones mtwos mgone mroundNow msampleFor msampleAll maskWorst moftenAll moftenView moftenOnes (by omega) (by omega) (by omega) (by omega) (by omega)) [0] rfl (by decide) rfl rfl rfl rfl rfl ⟨Nat.le_of_ble_eq_true rfl, Nat.le_of_ble_eq_true rfl, Nat.le_of_ble_eq_true rfl⟩ dX11_readNext_81 ⟨Nat.le_of_ble_eq_true rfl, Nat.le_of_ble_eq_true rfl⟩ (fun r_174 H locs hr_174 hP hS => ?_)
            obtain rfl := hr_174
            refine lv_if_ne (tgt := 88) hx hb dX11_readNext_84 (by decide) (fun c_176 => ?_) (fun c_176 => ?_)
            · skip
              have c_176 : (u_172.1 0) = 0 := bo_1.mp c_176
              exact absurd c_176 hg_173
            · skip
              have c_176 : ¬ ((u_172.1 0) = 0) := bo_0.mp c_176
              exact x_retv S hr hlk hQ hS ((fun i => ([mtoken, mvalue, (u_172.1 0), (u_172.1 1)] : List (Int32)).getD i 0), (fun i => ([mat, mfrom] : List (Nat)).getD i 0), (fun i => ([ffresh] : List (Nat → Int32)).getD i (fun _ => 0)), (fun i => ([] : List (Nat → Int64)).getD i (fun _ => 0)), (fun i => ([] : List (Int64)).getD i 0)) ⟨(show mat ≤ 600 by omega), (show mfrom ≤ 600 by omega), hkfresh, (show mfrom ≤ mfrom ∧ mfrom ≤ mat by omega), (fun hz => absurd hz c_176)⟩ (x_B hP hD) dX11_readNext_87
        · skip
          have c_125 : isW mfaultKind mtoken mat mfrom ftape 4 := isB_1.mp c_125
          exact absurd c_125 c_3

set_option maxHeartbeats 4000000 in
set_option maxRecDepth 100000 in
theorem ctX11_readLine (l : Launch) (D : va_G) (k : Nat → ClassId) (z : Nat → Nat) (n : Nat → Nat) (mthrown : Int32) (mtaped : Nat) (msize : Nat) (mat : Nat) (mfrom : Nat) (mtoken : Int32) (mvalue : Int32) (mfaultKind : Int32) (mfaultPlace : Int32) (mmoreMany : Nat) (mlawNow : Int32) (mwetSet : Int32) (moverAll : Int32) (mones : Int32) (mtwos : Int32) (mgone : Int32) (mroundNow : Int32) (msampleFor : Int64) (msampleAll : Int64) (maskWorst : Int32) (moftenAll : Int64) (moftenView : Int64) (moftenOnes : Int64) (ftape : Nat → Int32) (ffresh : Nat → Int32) (hmtaped : mtaped ≤ 600) (hmsize : msize ≤ 600) (hmat : mat ≤ 600) (hmfrom : mfrom ≤ 600) (hmmoreMany : mmoreMany ≤ 14) (hkfresh : okW ffresh) (hfa : mfrom ≤ mat) : MU l yX11_readLine cX11_readLine 1 none 11 D k z [.ref (n 0)] [((n 0), .inr (11, [.int mthrown, .ref (n 1), .ref (n 2), .ref (n 3), .ref (n 4), .int (nI mtaped), .ref (n 5), .int (nI msize), .int (nI mat), .int (nI mfrom), .int mtoken, .int mvalue, .int mfaultKind, .int mfaultPlace, .ref (n 6), .ref (n 7), .ref (n 8), .ref (n 9), .ref (n 10), .ref (n 11), .ref (n 12), .int (nI mmoreMany), .int mlawNow, .int mwetSet, .int moverAll, .ref (n 13), .ref (n 14), .ref (n 15), .int mones, .int mtwos, .int mgone, .ref (n 16), .ref (n 17), .int mroundNow, .ref (n 18), .long msampleFor, .long msampleAll, .ref (n 19), .int maskWorst, .long moftenAll, .long moftenView, .long moftenOnes, .ref (n 20), .ref (n 21), .ref (n 22), .ref (n 23)])), ((n 4), .inl (k 1, 600, .inl ftape)), ((n 6), .inl (k 0, 99, .inl ffresh))] 0 0 (Uv D (fun u : (Nat → Int32) × (Nat → Nat) × (Nat → Nat → Int32) × (Nat → Nat → Int64) × (Nat → Int64) => (u.2.1 0 ≤ 600) ∧ (u.2.1 1 ≤ 600) ∧ (okW (u.2.2.1 0)) ∧ (mfrom ≤ (u.2.1 1) ∧ (u.2.1 1) ≤ (u.2.1 0)) ∧ ((u.1 2) = 0 → mfrom < (u.2.1 1))) (fun u : (Nat → Int32) × (Nat → Nat) × (Nat → Nat → Int32) × (Nat → Nat → Int64) × (Nat → Int64) => [((n 0), .inr (11, [.int mthrown, .ref (n 1), .ref (n 2), .ref (n 3), .ref (n 4), .int (nI mtaped), .ref (n 5), .int (nI msize), .int (nI (u.2.1 0)), .int (nI (u.2.1 1)), .int (u.1 0), .int (u.1 1), .int (u.1 2), .int (u.1 3), .ref (n 6), .ref (n 7), .ref (n 8), .ref (n 9), .ref (n 10), .ref (n 11), .ref (n 12), .int (nI mmoreMany), .int mlawNow, .int mwetSet, .int moverAll, .ref (n 13), .ref (n 14), .ref (n 15), .int mones, .int mtwos, .int mgone, .ref (n 16), .ref (n 17), .int mroundNow, .ref (n 18), .long msampleFor, .long msampleAll, .ref (n 19), .int maskWorst, .long moftenAll, .long moftenView, .long moftenOnes, .ref (n 20), .ref (n 21), .ref (n 22), .ref (n 23)])), ((n 4), .inl (k 1, 600, .inl ftape)), ((n 6), .inl (k 0, 99, .inl (u.2.2.1 0)))])) := by
  refine MU.of (by decide) (Nat.le_of_ble_eq_true rfl) ?_
  intro p e s m below meth c ls A args Q S hr hlk hnm hQ hK hP hD hZ hA hS hl
  have hx := S.1
  have hb := S.2.1
  have hl : lv_has ls 1 [(0, .ref (n 0))] := hl
  have hbffresh := okW_bd hkfresh
  refine lv_aload_n hx hb dX11_readLine_0 rfl (lv_at hl 0 rfl) ?_
  refine x_get S hK hP 0 rfl cfX11 14 lkX11_31 (by decide) rfl dX11_readLine_1 ?_
  refine lv_bipush (v := 8) hx hb dX11_readLine_4 (by decide) ?_
  refine x_iald S hK hP 2 rfl (vp_lit (by decide)) dX11_readLine_6 ?_
  refine lv_topi (fun v_1 ev_1 => ?_)
  refine lv_if_ne (tgt := 17) hx hb dX11_readLine_7 (by decide) (fun c_2 => ?_) (fun c_2 => ?_)
  · skip
    refine lv_aload_n hx hb dX11_readLine_17 rfl (lv_at hl 0 rfl) ?_
    refine x_muVv (wr := []) (As := []) S hK hP hD hZ hS hA hl mwX11_readNext lkX11_221 (ctX11_readNext l D k z n mthrown mtaped msize mat mfrom mtoken mvalue mfaultKind mfaultPlace mmoreMany mlawNow mwetSet moverAll mones mtwos mgone mroundNow msampleFor msampleAll maskWorst moftenAll moftenView moftenOnes ftape ffresh (by omega) (by omega) (by omega) (by omega) (by omega) (hkfresh) (by omega)) [0, 1, 2] [] rfl rfl (by decide) (by decide) (by decide) rfl rfl rfl rfl rfl ⟨Nat.le_of_ble_eq_true rfl, Nat.le_of_ble_eq_true rfl, Nat.le_of_ble_eq_true rfl⟩ dX11_readLine_18 ⟨Nat.le_of_ble_eq_true rfl, Nat.le_of_ble_eq_true rfl⟩ (fun u_4 H locs hr_3 hP hD hS => ?_)
    have hP : va_P D vwCl [((n 0), .inr (11, [.int mthrown, .ref (n 1), .ref (n 2), .ref (n 3), .ref (n 4), .int (nI mtaped), .ref (n 5), .int (nI msize), .int (nI (u_4.2.1 0)), .int (nI (u_4.2.1 1)), .int (u_4.1 0), .int (u_4.1 1), .int (u_4.1 2), .int (u_4.1 3), .ref (n 6), .ref (n 7), .ref (n 8), .ref (n 9), .ref (n 10), .ref (n 11), .ref (n 12), .int (nI mmoreMany), .int mlawNow, .int mwetSet, .int moverAll, .ref (n 13), .ref (n 14), .ref (n 15), .int mones, .int mtwos, .int mgone, .ref (n 16), .ref (n 17), .int mroundNow, .ref (n 18), .long msampleFor, .long msampleAll, .ref (n 19), .int maskWorst, .long moftenAll, .long moftenView, .long moftenOnes, .ref (n 20), .ref (n 21), .ref (n 22), .ref (n 23)])), ((n 4), .inl (k 1, 600, .inl ftape)), ((n 6), .inl (k 0, 99, .inl (u_4.2.2.1 0)))] H := hP.sub [0, 1, 2] rfl
    have hD : va_D A [((n 0), .inr (11, [.int mthrown, .ref (n 1), .ref (n 2), .ref (n 3), .ref (n 4), .int (nI mtaped), .ref (n 5), .int (nI msize), .int (nI (u_4.2.1 0)), .int (nI (u_4.2.1 1)), .int (u_4.1 0), .int (u_4.1 1), .int (u_4.1 2), .int (u_4.1 3), .ref (n 6), .ref (n 7), .ref (n 8), .ref (n 9), .ref (n 10), .ref (n 11), .ref (n 12), .int (nI mmoreMany), .int mlawNow, .int mwetSet, .int moverAll, .ref (n 13), .ref (n 14), .ref (n 15), .int mones, .int mtwos, .int mgone, .ref (n 16), .ref (n 17), .int mroundNow, .ref (n 18), .long msampleFor, .long msampleAll, .ref (n 19), .int maskWorst, .long moftenAll, .long moftenView, .long moftenOnes, .ref (n 20), .ref (n 21), .ref (n 22), .ref (n 23)])), ((n 4), .inl (k 1, 600, .inl ftape)), ((n 6), .inl (k 0, 99, .inl (u_4.2.2.1 0)))] := hD.sub [0, 1, 2] (by decide) rfl
    obtain ⟨hg_5, hg_6, hi_7, hg_8, hg_9⟩ := hr_3
    have hbhi_7 := okW_bd hi_7
    refine lv_aload_n hx hb dX11_readLine_21 rfl (lv_at hl 0 rfl) ?_
    refine x_roVi (As := []) S hK hP hD hZ (fun _ h => h) hA hS hA hl mwX11_good lkX11_146 (ctX11_good l D k z n mthrown mtaped msize (u_4.2.1 0) (u_4.2.1 1) (u_4.1 0) (u_4.1 1) (u_4.1 2) (u_4.1 3) mmoreMany mlawNow mwetSet moverAll mones mtwos mgone mroundNow msampleFor msampleAll maskWorst moftenAll moftenView moftenOnes (by omega) (by omega) (by omega) (by omega) (by omega)) [0] rfl (by decide) rfl rfl rfl rfl rfl ⟨Nat.le_of_ble_eq_true rfl, Nat.le_of_ble_eq_true rfl, Nat.le_of_ble_eq_true rfl⟩ dX11_readLine_22 ⟨Nat.le_of_ble_eq_true rfl, Nat.le_of_ble_eq_true rfl⟩ (fun r_10 H locs hr_10 hP hS => ?_)
    obtain rfl := hr_10
    refine lv_if_eq (tgt := 41) hx hb dX11_readLine_25 (by decide) (fun c_12 => ?_) (fun c_12 => ?_)
    · skip
      have c_12 : ¬ ((u_4.1 2) = 0) := bo_0.mp c_12
      refine lv_aload_n hx hb dX11_readLine_41 rfl (lv_at hl 0 rfl) ?_
      refine x_roVi (As := []) S hK hP hD hZ (fun _ h => h) hA hS hA hl mwX11_good lkX11_146 (ctX11_good l D k z n mthrown mtaped msize (u_4.2.1 0) (u_4.2.1 1) (u_4.1 0) (u_4.1 1) (u_4.1 2) (u_4.1 3) mmoreMany mlawNow mwetSet moverAll mones mtwos mgone mroundNow msampleFor msampleAll maskWorst moftenAll moftenView moftenOnes (by omega) (by omega) (by omega) (by omega) (by omega)) [0] rfl (by decide) rfl rfl rfl rfl rfl ⟨Nat.le_of_ble_eq_true rfl, Nat.le_of_ble_eq_true rfl, Nat.le_of_ble_eq_true rfl⟩ dX11_readLine_42 ⟨Nat.le_of_ble_eq_true rfl, Nat.le_of_ble_eq_true rfl⟩ (fun r_13 H locs hr_13 hP hS => ?_)
      obtain rfl := hr_13
      refine lv_if_eq (tgt := 52) hx hb dX11_readLine_45 (by decide) (fun c_15 => ?_) (fun c_15 => ?_)
      · skip
        have c_15 : ¬ ((u_4.1 2) = 0) := bo_0.mp c_15
        refine lv_aload_n hx hb dX11_readLine_52 rfl (lv_at hl 0 rfl) ?_
        refine x_get S hK hP 0 rfl cfX11 14 lkX11_31 (by decide) rfl dX11_readLine_53 ?_
        refine lv_bipush (v := 8) hx hb dX11_readLine_56 (by decide) ?_
        refine lv_dup2_11 hx hb dX11_readLine_58 rfl rfl ?_
        refine x_iald S hK hP 2 rfl (vp_lit (by decide)) dX11_readLine_59 ?_
        refine lv_topi (fun v_16 ev_16 => ?_)
        refine lv_iconst (v := 1) hx hb dX11_readLine_60 (by decide) ?_
        refine lv_iadd hx hb dX11_readLine_61 ?_
        refine lv_topi (fun v_17 ev_17 => ?_)
        refine x_iast (ws' := fun f_18 => [((n 0), .inr (11, [.int mthrown, .ref (n 1), .ref (n 2), .ref (n 3), .ref (n 4), .int (nI mtaped), .ref (n 5), .int (nI msize), .int (nI (u_4.2.1 0)), .int (nI (u_4.2.1 1)), .int (u_4.1 0), .int (u_4.1 1), .int (u_4.1 2), .int (u_4.1 3), .ref (n 6), .ref (n 7), .ref (n 8), .ref (n 9), .ref (n 10), .ref (n 11), .ref (n 12), .int (nI mmoreMany), .int mlawNow, .int mwetSet, .int moverAll, .ref (n 13), .ref (n 14), .ref (n 15), .int mones, .int mtwos, .int mgone, .ref (n 16), .ref (n 17), .int mroundNow, .ref (n 18), .long msampleFor, .long msampleAll, .ref (n 19), .int maskWorst, .long moftenAll, .long moftenView, .long moftenOnes, .ref (n 20), .ref (n 21), .ref (n 22), .ref (n 23)])), ((n 4), .inl (k 1, 600, .inl ftape)), ((n 6), .inl (k 0, 99, .inl f_18))]) S hK hP hD hS 2 rfl (vp_lit (by decide)) (fun _ => rfl) dX11_readLine_62 (fun f_18 H locs ef_18 hP hD hS => ?_)
        obtain ⟨hif_18, hbf_18⟩ := okW_hi ef_18 hi_7 (a := 8) (by decide) (by omega) (by omega)
        exact x_retv S hr hlk hQ hS ((fun i => ([(u_4.1 0), (u_4.1 1), (u_4.1 2), (u_4.1 3)] : List (Int32)).getD i 0), (fun i => ([u_4.2.1 0, u_4.2.1 1] : List (Nat)).getD i 0), (fun i => ([f_18] : List (Nat → Int32)).getD i (fun _ => 0)), (fun i => ([] : List (Nat → Int64)).getD i (fun _ => 0)), (fun i => ([] : List (Int64)).getD i 0)) ⟨(show u_4.2.1 0 ≤ 600 by omega), (show u_4.2.1 1 ≤ 600 by omega), hif_18, (show mfrom ≤ u_4.2.1 1 ∧ u_4.2.1 1 ≤ u_4.2.1 0 by omega), (fun hz => absurd hz c_15)⟩ (x_B hP hD) dX11_readLine_63
      · skip
        have c_15 : (u_4.1 2) = 0 := bo_1.mp c_15
        exact absurd c_15 c_12
    · skip
      have c_12 : (u_4.1 2) = 0 := bo_1.mp c_12
      refine lv_aload_n hx hb dX11_readLine_28 rfl (lv_at hl 0 rfl) ?_
      refine x_get S hK hP 0 rfl cfX11 10 lkX11_122 (by decide) rfl dX11_readLine_29 ?_
      refine lv_iconst (v := 3) hx hb dX11_readLine_32 (by decide) ?_
      refine lv_icmp_eq (tgt := 41) hx hb dX11_readLine_33 (by decide) (fun c_19 => ?_) (fun c_19 => ?_)
      · skip
        refine lv_aload_n hx hb dX11_readLine_41 rfl (lv_at hl 0 rfl) ?_
        refine x_roVi (As := []) S hK hP hD hZ (fun _ h => h) hA hS hA hl mwX11_good lkX11_146 (ctX11_good l D k z n mthrown mtaped msize (u_4.2.1 0) (u_4.2.1 1) (u_4.1 0) (u_4.1 1) (u_4.1 2) (u_4.1 3) mmoreMany mlawNow mwetSet moverAll mones mtwos mgone mroundNow msampleFor msampleAll maskWorst moftenAll moftenView moftenOnes (by omega) (by omega) (by omega) (by omega) (by omega)) [0] rfl (by decide) rfl rfl rfl rfl rfl ⟨Nat.le_of_ble_eq_true rfl, Nat.le_of_ble_eq_true rfl, Nat.le_of_ble_eq_true rfl⟩ dX11_readLine_42 ⟨Nat.le_of_ble_eq_true rfl, Nat.le_of_ble_eq_true rfl⟩ (fun r_20 H locs hr_20 hP hS => ?_)
        obtain rfl := hr_20
        refine lv_if_eq (tgt := 52) hx hb dX11_readLine_45 (by decide) (fun c_22 => ?_) (fun c_22 => ?_)
        · skip
          have c_22 : ¬ ((u_4.1 2) = 0) := bo_0.mp c_22
          exact absurd c_12 c_22
        · skip
          have c_22 : (u_4.1 2) = 0 := bo_1.mp c_22
          refine lv_aload_n hx hb dX11_readLine_48 rfl (lv_at hl 0 rfl) ?_
          refine x_muVv (wr := [((n 6), .inl (k 0, 99, .inl (u_4.2.2.1 0)))]) (As := []) S hK hP hD hZ hS hA hl mwX11_advance lkX11_162 (ctX11_advance l D k z n mthrown mtaped msize (u_4.2.1 0) (u_4.2.1 1) (u_4.1 0) (u_4.1 1) (u_4.1 2) (u_4.1 3) mmoreMany mlawNow mwetSet moverAll mones mtwos mgone mroundNow msampleFor msampleAll maskWorst moftenAll moftenView moftenOnes ftape (by omega) (by omega) (by omega) (by omega) (by omega)) [0, 1] [2] rfl rfl (by decide) (by decide) (by decide) rfl rfl rfl rfl rfl ⟨Nat.le_of_ble_eq_true rfl, Nat.le_of_ble_eq_true rfl, Nat.le_of_ble_eq_true rfl⟩ dX11_readLine_49 ⟨Nat.le_of_ble_eq_true rfl, Nat.le_of_ble_eq_true rfl⟩ (fun u_24 H locs hr_23 hP hD hS => ?_)
          have hP : va_P D vwCl [((n 0), .inr (11, [.int mthrown, .ref (n 1), .ref (n 2), .ref (n 3), .ref (n 4), .int (nI mtaped), .ref (n 5), .int (nI msize), .int (nI (u_24.2.1 0)), .int (nI (u_24.2.1 1)), .int (u_24.1 0), .int (u_24.1 1), .int (u_4.1 2), .int (u_4.1 3), .ref (n 6), .ref (n 7), .ref (n 8), .ref (n 9), .ref (n 10), .ref (n 11), .ref (n 12), .int (nI mmoreMany), .int mlawNow, .int mwetSet, .int moverAll, .ref (n 13), .ref (n 14), .ref (n 15), .int mones, .int mtwos, .int mgone, .ref (n 16), .ref (n 17), .int mroundNow, .ref (n 18), .long msampleFor, .long msampleAll, .ref (n 19), .int maskWorst, .long moftenAll, .long moftenView, .long moftenOnes, .ref (n 20), .ref (n 21), .ref (n 22), .ref (n 23)])), ((n 4), .inl (k 1, 600, .inl ftape)), ((n 6), .inl (k 0, 99, .inl (u_4.2.2.1 0)))] H := hP.sub [1, 2, 0] rfl
          have hD : va_D A [((n 0), .inr (11, [.int mthrown, .ref (n 1), .ref (n 2), .ref (n 3), .ref (n 4), .int (nI mtaped), .ref (n 5), .int (nI msize), .int (nI (u_24.2.1 0)), .int (nI (u_24.2.1 1)), .int (u_24.1 0), .int (u_24.1 1), .int (u_4.1 2), .int (u_4.1 3), .ref (n 6), .ref (n 7), .ref (n 8), .ref (n 9), .ref (n 10), .ref (n 11), .ref (n 12), .int (nI mmoreMany), .int mlawNow, .int mwetSet, .int moverAll, .ref (n 13), .ref (n 14), .ref (n 15), .int mones, .int mtwos, .int mgone, .ref (n 16), .ref (n 17), .int mroundNow, .ref (n 18), .long msampleFor, .long msampleAll, .ref (n 19), .int maskWorst, .long moftenAll, .long moftenView, .long moftenOnes, .ref (n 20), .ref (n 21), .ref (n 22), .ref (n 23)])), ((n 4), .inl (k 1, 600, .inl ftape)), ((n 6), .inl (k 0, 99, .inl (u_4.2.2.1 0)))] := hD.sub [1, 2, 0] (by decide) rfl
          obtain ⟨hg_25, hg_26, hg_27⟩ := hr_23
          refine lv_aload_n hx hb dX11_readLine_52 rfl (lv_at hl 0 rfl) ?_
          refine x_get S hK hP 0 rfl cfX11 14 lkX11_31 (by decide) rfl dX11_readLine_53 ?_
          refine lv_bipush (v := 8) hx hb dX11_readLine_56 (by decide) ?_
          refine lv_dup2_11 hx hb dX11_readLine_58 rfl rfl ?_
          refine x_iald S hK hP 2 rfl (vp_lit (by decide)) dX11_readLine_59 ?_
          refine lv_topi (fun v_28 ev_28 => ?_)
          refine lv_iconst (v := 1) hx hb dX11_readLine_60 (by decide) ?_
          refine lv_iadd hx hb dX11_readLine_61 ?_
          refine lv_topi (fun v_29 ev_29 => ?_)
          refine x_iast (ws' := fun f_30 => [((n 0), .inr (11, [.int mthrown, .ref (n 1), .ref (n 2), .ref (n 3), .ref (n 4), .int (nI mtaped), .ref (n 5), .int (nI msize), .int (nI (u_24.2.1 0)), .int (nI (u_24.2.1 1)), .int (u_24.1 0), .int (u_24.1 1), .int (u_4.1 2), .int (u_4.1 3), .ref (n 6), .ref (n 7), .ref (n 8), .ref (n 9), .ref (n 10), .ref (n 11), .ref (n 12), .int (nI mmoreMany), .int mlawNow, .int mwetSet, .int moverAll, .ref (n 13), .ref (n 14), .ref (n 15), .int mones, .int mtwos, .int mgone, .ref (n 16), .ref (n 17), .int mroundNow, .ref (n 18), .long msampleFor, .long msampleAll, .ref (n 19), .int maskWorst, .long moftenAll, .long moftenView, .long moftenOnes, .ref (n 20), .ref (n 21), .ref (n 22), .ref (n 23)])), ((n 4), .inl (k 1, 600, .inl ftape)), ((n 6), .inl (k 0, 99, .inl f_30))]) S hK hP hD hS 2 rfl (vp_lit (by decide)) (fun _ => rfl) dX11_readLine_62 (fun f_30 H locs ef_30 hP hD hS => ?_)
          obtain ⟨hif_30, hbf_30⟩ := okW_hi ef_30 hi_7 (a := 8) (by decide) (by omega) (by omega)
          exact x_retv S hr hlk hQ hS ((fun i => ([(u_24.1 0), (u_24.1 1), (u_4.1 2), (u_4.1 3)] : List (Int32)).getD i 0), (fun i => ([u_24.2.1 0, u_24.2.1 1] : List (Nat)).getD i 0), (fun i => ([f_30] : List (Nat → Int32)).getD i (fun _ => 0)), (fun i => ([] : List (Nat → Int64)).getD i (fun _ => 0)), (fun i => ([] : List (Int64)).getD i 0)) ⟨(show u_24.2.1 0 ≤ 600 by omega), (show u_24.2.1 1 ≤ 600 by omega), hif_30, (show mfrom ≤ u_24.2.1 1 ∧ u_24.2.1 1 ≤ u_24.2.1 0 by omega), (fun hz => (show mfrom < u_24.2.1 1 by have k_31 := hg_9 hz; omega))⟩ (x_B hP hD) dX11_readLine_63
      · skip
        refine lv_aload_n hx hb dX11_readLine_36 rfl (lv_at hl 0 rfl) ?_
        refine lv_iconst (v := 1) hx hb dX11_readLine_37 (by decide) ?_
        refine x_muVv (wr := [((n 4), .inl (k 1, 600, .inl ftape)), ((n 6), .inl (k 0, 99, .inl (u_4.2.2.1 0)))]) (As := [.int 1]) S hK hP hD hZ hS hA hl mwX11_errs lkX11_168 (ctX11_errs l D k z n mthrown mtaped msize (u_4.2.1 0) (u_4.2.1 1) (u_4.1 0) (u_4.1 1) (u_4.1 2) (u_4.1 3) mmoreMany mlawNow mwetSet moverAll mones mtwos mgone mroundNow msampleFor msampleAll maskWorst moftenAll moftenView moftenOnes 1 (by omega) (by omega) (by omega) (by omega) (by omega) (by omega) (by omega)) [0] [1, 2] rfl rfl (by decide) (by decide) (by decide) rfl rfl rfl rfl rfl ⟨Nat.le_of_ble_eq_true rfl, Nat.le_of_ble_eq_true rfl, Nat.le_of_ble_eq_true rfl⟩ dX11_readLine_38 ⟨Nat.le_of_ble_eq_true rfl, Nat.le_of_ble_eq_true rfl⟩ (fun u_33 H locs hr_32 hP hD hS => ?_)
        have hP : va_P D vwCl [((n 0), .inr (11, [.int mthrown, .ref (n 1), .ref (n 2), .ref (n 3), .ref (n 4), .int (nI mtaped), .ref (n 5), .int (nI msize), .int (nI (u_4.2.1 0)), .int (nI (u_4.2.1 1)), .int (u_4.1 0), .int (u_4.1 1), .int (u_33.1 0), .int (u_33.1 1), .ref (n 6), .ref (n 7), .ref (n 8), .ref (n 9), .ref (n 10), .ref (n 11), .ref (n 12), .int (nI mmoreMany), .int mlawNow, .int mwetSet, .int moverAll, .ref (n 13), .ref (n 14), .ref (n 15), .int mones, .int mtwos, .int mgone, .ref (n 16), .ref (n 17), .int mroundNow, .ref (n 18), .long msampleFor, .long msampleAll, .ref (n 19), .int maskWorst, .long moftenAll, .long moftenView, .long moftenOnes, .ref (n 20), .ref (n 21), .ref (n 22), .ref (n 23)])), ((n 4), .inl (k 1, 600, .inl ftape)), ((n 6), .inl (k 0, 99, .inl (u_4.2.2.1 0)))] H := hP.sub [2, 0, 1] rfl
        have hD : va_D A [((n 0), .inr (11, [.int mthrown, .ref (n 1), .ref (n 2), .ref (n 3), .ref (n 4), .int (nI mtaped), .ref (n 5), .int (nI msize), .int (nI (u_4.2.1 0)), .int (nI (u_4.2.1 1)), .int (u_4.1 0), .int (u_4.1 1), .int (u_33.1 0), .int (u_33.1 1), .ref (n 6), .ref (n 7), .ref (n 8), .ref (n 9), .ref (n 10), .ref (n 11), .ref (n 12), .int (nI mmoreMany), .int mlawNow, .int mwetSet, .int moverAll, .ref (n 13), .ref (n 14), .ref (n 15), .int mones, .int mtwos, .int mgone, .ref (n 16), .ref (n 17), .int mroundNow, .ref (n 18), .long msampleFor, .long msampleAll, .ref (n 19), .int maskWorst, .long moftenAll, .long moftenView, .long moftenOnes, .ref (n 20), .ref (n 21), .ref (n 22), .ref (n 23)])), ((n 4), .inl (k 1, 600, .inl ftape)), ((n 6), .inl (k 0, 99, .inl (u_4.2.2.1 0)))] := hD.sub [2, 0, 1] (by decide) rfl
        have hg_34 := hr_32
        refine lv_aload_n hx hb dX11_readLine_41 rfl (lv_at hl 0 rfl) ?_
        refine x_roVi (As := []) S hK hP hD hZ (fun _ h => h) hA hS hA hl mwX11_good lkX11_146 (ctX11_good l D k z n mthrown mtaped msize (u_4.2.1 0) (u_4.2.1 1) (u_4.1 0) (u_4.1 1) (u_33.1 0) (u_33.1 1) mmoreMany mlawNow mwetSet moverAll mones mtwos mgone mroundNow msampleFor msampleAll maskWorst moftenAll moftenView moftenOnes (by omega) (by omega) (by omega) (by omega) (by omega)) [0] rfl (by decide) rfl rfl rfl rfl rfl ⟨Nat.le_of_ble_eq_true rfl, Nat.le_of_ble_eq_true rfl, Nat.le_of_ble_eq_true rfl⟩ dX11_readLine_42 ⟨Nat.le_of_ble_eq_true rfl, Nat.le_of_ble_eq_true rfl⟩ (fun r_35 H locs hr_35 hP hS => ?_)
        obtain rfl := hr_35
        refine lv_if_eq (tgt := 52) hx hb dX11_readLine_45 (by decide) (fun c_37 => ?_) (fun c_37 => ?_)
        · skip
          have c_37 : ¬ ((u_33.1 0) = 0) := bo_0.mp c_37
          refine lv_aload_n hx hb dX11_readLine_52 rfl (lv_at hl 0 rfl) ?_
          refine x_get S hK hP 0 rfl cfX11 14 lkX11_31 (by decide) rfl dX11_readLine_53 ?_
          refine lv_bipush (v := 8) hx hb dX11_readLine_56 (by decide) ?_
          refine lv_dup2_11 hx hb dX11_readLine_58 rfl rfl ?_
          refine x_iald S hK hP 2 rfl (vp_lit (by decide)) dX11_readLine_59 ?_
          refine lv_topi (fun v_38 ev_38 => ?_)
          refine lv_iconst (v := 1) hx hb dX11_readLine_60 (by decide) ?_
          refine lv_iadd hx hb dX11_readLine_61 ?_
          refine lv_topi (fun v_39 ev_39 => ?_)
          refine x_iast (ws' := fun f_40 => [((n 0), .inr (11, [.int mthrown, .ref (n 1), .ref (n 2), .ref (n 3), .ref (n 4), .int (nI mtaped), .ref (n 5), .int (nI msize), .int (nI (u_4.2.1 0)), .int (nI (u_4.2.1 1)), .int (u_4.1 0), .int (u_4.1 1), .int (u_33.1 0), .int (u_33.1 1), .ref (n 6), .ref (n 7), .ref (n 8), .ref (n 9), .ref (n 10), .ref (n 11), .ref (n 12), .int (nI mmoreMany), .int mlawNow, .int mwetSet, .int moverAll, .ref (n 13), .ref (n 14), .ref (n 15), .int mones, .int mtwos, .int mgone, .ref (n 16), .ref (n 17), .int mroundNow, .ref (n 18), .long msampleFor, .long msampleAll, .ref (n 19), .int maskWorst, .long moftenAll, .long moftenView, .long moftenOnes, .ref (n 20), .ref (n 21), .ref (n 22), .ref (n 23)])), ((n 4), .inl (k 1, 600, .inl ftape)), ((n 6), .inl (k 0, 99, .inl f_40))]) S hK hP hD hS 2 rfl (vp_lit (by decide)) (fun _ => rfl) dX11_readLine_62 (fun f_40 H locs ef_40 hP hD hS => ?_)
          obtain ⟨hif_40, hbf_40⟩ := okW_hi ef_40 hi_7 (a := 8) (by decide) (by omega) (by omega)
          exact x_retv S hr hlk hQ hS ((fun i => ([(u_4.1 0), (u_4.1 1), (u_33.1 0), (u_33.1 1)] : List (Int32)).getD i 0), (fun i => ([u_4.2.1 0, u_4.2.1 1] : List (Nat)).getD i 0), (fun i => ([f_40] : List (Nat → Int32)).getD i (fun _ => 0)), (fun i => ([] : List (Nat → Int64)).getD i (fun _ => 0)), (fun i => ([] : List (Int64)).getD i 0)) ⟨(show u_4.2.1 0 ≤ 600 by omega), (show u_4.2.1 1 ≤ 600 by omega), hif_40, (show mfrom ≤ u_4.2.1 1 ∧ u_4.2.1 1 ≤ u_4.2.1 0 by omega), (fun hz => absurd hz c_37)⟩ (x_B hP hD) dX11_readLine_63
        · skip
          have c_37 : (u_33.1 0) = 0 := bo_1.mp c_37
          exact absurd c_37 hg_34
  · skip
    refine lv_aload_n hx hb dX11_readLine_10 rfl (lv_at hl 0 rfl) ?_
    refine x_muVv (wr := []) (As := []) S hK hP hD hZ hS hA hl mwX11_readFirst lkX11_218 (ctX11_readFirst l D k z n mthrown mtaped msize mat mfrom mtoken mvalue mfaultKind mfaultPlace mmoreMany mlawNow mwetSet moverAll mones mtwos mgone mroundNow msampleFor msampleAll maskWorst moftenAll moftenView moftenOnes ftape ffresh (by omega) (by omega) (by omega) (by omega) (by omega) (hkfresh) (by omega)) [0, 1, 2] [] rfl rfl (by decide) (by decide) (by decide) rfl rfl rfl rfl rfl ⟨Nat.le_of_ble_eq_true rfl, Nat.le_of_ble_eq_true rfl, Nat.le_of_ble_eq_true rfl⟩ dX11_readLine_11 ⟨Nat.le_of_ble_eq_true rfl, Nat.le_of_ble_eq_true rfl⟩ (fun u_42 H locs hr_41 hP hD hS => ?_)
    have hP : va_P D vwCl [((n 0), .inr (11, [.int mthrown, .ref (n 1), .ref (n 2), .ref (n 3), .ref (n 4), .int (nI mtaped), .ref (n 5), .int (nI msize), .int (nI (u_42.2.1 0)), .int (nI (u_42.2.1 1)), .int (u_42.1 0), .int (u_42.1 1), .int (u_42.1 2), .int (u_42.1 3), .ref (n 6), .ref (n 7), .ref (n 8), .ref (n 9), .ref (n 10), .ref (n 11), .ref (n 12), .int (nI mmoreMany), .int mlawNow, .int mwetSet, .int moverAll, .ref (n 13), .ref (n 14), .ref (n 15), .int mones, .int mtwos, .int mgone, .ref (n 16), .ref (n 17), .int mroundNow, .ref (n 18), .long msampleFor, .long msampleAll, .ref (n 19), .int maskWorst, .long moftenAll, .long moftenView, .long moftenOnes, .ref (n 20), .ref (n 21), .ref (n 22), .ref (n 23)])), ((n 4), .inl (k 1, 600, .inl ftape)), ((n 6), .inl (k 0, 99, .inl (u_42.2.2.1 0)))] H := hP.sub [0, 1, 2] rfl
    have hD : va_D A [((n 0), .inr (11, [.int mthrown, .ref (n 1), .ref (n 2), .ref (n 3), .ref (n 4), .int (nI mtaped), .ref (n 5), .int (nI msize), .int (nI (u_42.2.1 0)), .int (nI (u_42.2.1 1)), .int (u_42.1 0), .int (u_42.1 1), .int (u_42.1 2), .int (u_42.1 3), .ref (n 6), .ref (n 7), .ref (n 8), .ref (n 9), .ref (n 10), .ref (n 11), .ref (n 12), .int (nI mmoreMany), .int mlawNow, .int mwetSet, .int moverAll, .ref (n 13), .ref (n 14), .ref (n 15), .int mones, .int mtwos, .int mgone, .ref (n 16), .ref (n 17), .int mroundNow, .ref (n 18), .long msampleFor, .long msampleAll, .ref (n 19), .int maskWorst, .long moftenAll, .long moftenView, .long moftenOnes, .ref (n 20), .ref (n 21), .ref (n 22), .ref (n 23)])), ((n 4), .inl (k 1, 600, .inl ftape)), ((n 6), .inl (k 0, 99, .inl (u_42.2.2.1 0)))] := hD.sub [0, 1, 2] (by decide) rfl
    obtain ⟨hg_43, hg_44, hi_45, hg_46, hg_47⟩ := hr_41
    have hbhi_45 := okW_bd hi_45
    refine lv_goto (tgt := 21) hx hb dX11_readLine_14 (by decide) ?_
    refine lv_aload_n hx hb dX11_readLine_21 rfl (lv_at hl 0 rfl) ?_
    refine x_roVi (As := []) S hK hP hD hZ (fun _ h => h) hA hS hA hl mwX11_good lkX11_146 (ctX11_good l D k z n mthrown mtaped msize (u_42.2.1 0) (u_42.2.1 1) (u_42.1 0) (u_42.1 1) (u_42.1 2) (u_42.1 3) mmoreMany mlawNow mwetSet moverAll mones mtwos mgone mroundNow msampleFor msampleAll maskWorst moftenAll moftenView moftenOnes (by omega) (by omega) (by omega) (by omega) (by omega)) [0] rfl (by decide) rfl rfl rfl rfl rfl ⟨Nat.le_of_ble_eq_true rfl, Nat.le_of_ble_eq_true rfl, Nat.le_of_ble_eq_true rfl⟩ dX11_readLine_22 ⟨Nat.le_of_ble_eq_true rfl, Nat.le_of_ble_eq_true rfl⟩ (fun r_48 H locs hr_48 hP hS => ?_)
    obtain rfl := hr_48
    refine lv_if_eq (tgt := 41) hx hb dX11_readLine_25 (by decide) (fun c_50 => ?_) (fun c_50 => ?_)
    · skip
      have c_50 : ¬ ((u_42.1 2) = 0) := bo_0.mp c_50
      refine lv_aload_n hx hb dX11_readLine_41 rfl (lv_at hl 0 rfl) ?_
      refine x_roVi (As := []) S hK hP hD hZ (fun _ h => h) hA hS hA hl mwX11_good lkX11_146 (ctX11_good l D k z n mthrown mtaped msize (u_42.2.1 0) (u_42.2.1 1) (u_42.1 0) (u_42.1 1) (u_42.1 2) (u_42.1 3) mmoreMany mlawNow mwetSet moverAll mones mtwos mgone mroundNow msampleFor msampleAll maskWorst moftenAll moftenView moftenOnes (by omega) (by omega) (by omega) (by omega) (by omega)) [0] rfl (by decide) rfl rfl rfl rfl rfl ⟨Nat.le_of_ble_eq_true rfl, Nat.le_of_ble_eq_true rfl, Nat.le_of_ble_eq_true rfl⟩ dX11_readLine_42 ⟨Nat.le_of_ble_eq_true rfl, Nat.le_of_ble_eq_true rfl⟩ (fun r_51 H locs hr_51 hP hS => ?_)
      obtain rfl := hr_51
      refine lv_if_eq (tgt := 52) hx hb dX11_readLine_45 (by decide) (fun c_53 => ?_) (fun c_53 => ?_)
      · skip
        have c_53 : ¬ ((u_42.1 2) = 0) := bo_0.mp c_53
        refine lv_aload_n hx hb dX11_readLine_52 rfl (lv_at hl 0 rfl) ?_
        refine x_get S hK hP 0 rfl cfX11 14 lkX11_31 (by decide) rfl dX11_readLine_53 ?_
        refine lv_bipush (v := 8) hx hb dX11_readLine_56 (by decide) ?_
        refine lv_dup2_11 hx hb dX11_readLine_58 rfl rfl ?_
        refine x_iald S hK hP 2 rfl (vp_lit (by decide)) dX11_readLine_59 ?_
        refine lv_topi (fun v_54 ev_54 => ?_)
        refine lv_iconst (v := 1) hx hb dX11_readLine_60 (by decide) ?_
        refine lv_iadd hx hb dX11_readLine_61 ?_
        refine lv_topi (fun v_55 ev_55 => ?_)
        refine x_iast (ws' := fun f_56 => [((n 0), .inr (11, [.int mthrown, .ref (n 1), .ref (n 2), .ref (n 3), .ref (n 4), .int (nI mtaped), .ref (n 5), .int (nI msize), .int (nI (u_42.2.1 0)), .int (nI (u_42.2.1 1)), .int (u_42.1 0), .int (u_42.1 1), .int (u_42.1 2), .int (u_42.1 3), .ref (n 6), .ref (n 7), .ref (n 8), .ref (n 9), .ref (n 10), .ref (n 11), .ref (n 12), .int (nI mmoreMany), .int mlawNow, .int mwetSet, .int moverAll, .ref (n 13), .ref (n 14), .ref (n 15), .int mones, .int mtwos, .int mgone, .ref (n 16), .ref (n 17), .int mroundNow, .ref (n 18), .long msampleFor, .long msampleAll, .ref (n 19), .int maskWorst, .long moftenAll, .long moftenView, .long moftenOnes, .ref (n 20), .ref (n 21), .ref (n 22), .ref (n 23)])), ((n 4), .inl (k 1, 600, .inl ftape)), ((n 6), .inl (k 0, 99, .inl f_56))]) S hK hP hD hS 2 rfl (vp_lit (by decide)) (fun _ => rfl) dX11_readLine_62 (fun f_56 H locs ef_56 hP hD hS => ?_)
        obtain ⟨hif_56, hbf_56⟩ := okW_hi ef_56 hi_45 (a := 8) (by decide) (by omega) (by omega)
        exact x_retv S hr hlk hQ hS ((fun i => ([(u_42.1 0), (u_42.1 1), (u_42.1 2), (u_42.1 3)] : List (Int32)).getD i 0), (fun i => ([u_42.2.1 0, u_42.2.1 1] : List (Nat)).getD i 0), (fun i => ([f_56] : List (Nat → Int32)).getD i (fun _ => 0)), (fun i => ([] : List (Nat → Int64)).getD i (fun _ => 0)), (fun i => ([] : List (Int64)).getD i 0)) ⟨(show u_42.2.1 0 ≤ 600 by omega), (show u_42.2.1 1 ≤ 600 by omega), hif_56, (show mfrom ≤ u_42.2.1 1 ∧ u_42.2.1 1 ≤ u_42.2.1 0 by omega), (fun hz => absurd hz c_53)⟩ (x_B hP hD) dX11_readLine_63
      · skip
        have c_53 : (u_42.1 2) = 0 := bo_1.mp c_53
        exact absurd c_53 c_50
    · skip
      have c_50 : (u_42.1 2) = 0 := bo_1.mp c_50
      refine lv_aload_n hx hb dX11_readLine_28 rfl (lv_at hl 0 rfl) ?_
      refine x_get S hK hP 0 rfl cfX11 10 lkX11_122 (by decide) rfl dX11_readLine_29 ?_
      refine lv_iconst (v := 3) hx hb dX11_readLine_32 (by decide) ?_
      refine lv_icmp_eq (tgt := 41) hx hb dX11_readLine_33 (by decide) (fun c_57 => ?_) (fun c_57 => ?_)
      · skip
        refine lv_aload_n hx hb dX11_readLine_41 rfl (lv_at hl 0 rfl) ?_
        refine x_roVi (As := []) S hK hP hD hZ (fun _ h => h) hA hS hA hl mwX11_good lkX11_146 (ctX11_good l D k z n mthrown mtaped msize (u_42.2.1 0) (u_42.2.1 1) (u_42.1 0) (u_42.1 1) (u_42.1 2) (u_42.1 3) mmoreMany mlawNow mwetSet moverAll mones mtwos mgone mroundNow msampleFor msampleAll maskWorst moftenAll moftenView moftenOnes (by omega) (by omega) (by omega) (by omega) (by omega)) [0] rfl (by decide) rfl rfl rfl rfl rfl ⟨Nat.le_of_ble_eq_true rfl, Nat.le_of_ble_eq_true rfl, Nat.le_of_ble_eq_true rfl⟩ dX11_readLine_42 ⟨Nat.le_of_ble_eq_true rfl, Nat.le_of_ble_eq_true rfl⟩ (fun r_58 H locs hr_58 hP hS => ?_)
        obtain rfl := hr_58
        refine lv_if_eq (tgt := 52) hx hb dX11_readLine_45 (by decide) (fun c_60 => ?_) (fun c_60 => ?_)
        · skip
          have c_60 : ¬ ((u_42.1 2) = 0) := bo_0.mp c_60
          exact absurd c_50 c_60
        · skip
          have c_60 : (u_42.1 2) = 0 := bo_1.mp c_60
          refine lv_aload_n hx hb dX11_readLine_48 rfl (lv_at hl 0 rfl) ?_
          refine x_muVv (wr := [((n 6), .inl (k 0, 99, .inl (u_42.2.2.1 0)))]) (As := []) S hK hP hD hZ hS hA hl mwX11_advance lkX11_162 (ctX11_advance l D k z n mthrown mtaped msize (u_42.2.1 0) (u_42.2.1 1) (u_42.1 0) (u_42.1 1) (u_42.1 2) (u_42.1 3) mmoreMany mlawNow mwetSet moverAll mones mtwos mgone mroundNow msampleFor msampleAll maskWorst moftenAll moftenView moftenOnes ftape (by omega) (by omega) (by omega) (by omega) (by omega)) [0, 1] [2] rfl rfl (by decide) (by decide) (by decide) rfl rfl rfl rfl rfl ⟨Nat.le_of_ble_eq_true rfl, Nat.le_of_ble_eq_true rfl, Nat.le_of_ble_eq_true rfl⟩ dX11_readLine_49 ⟨Nat.le_of_ble_eq_true rfl, Nat.le_of_ble_eq_true rfl⟩ (fun u_62 H locs hr_61 hP hD hS => ?_)
          have hP : va_P D vwCl [((n 0), .inr (11, [.int mthrown, .ref (n 1), .ref (n 2), .ref (n 3), .ref (n 4), .int (nI mtaped), .ref (n 5), .int (nI msize), .int (nI (u_62.2.1 0)), .int (nI (u_62.2.1 1)), .int (u_62.1 0), .int (u_62.1 1), .int (u_42.1 2), .int (u_42.1 3), .ref (n 6), .ref (n 7), .ref (n 8), .ref (n 9), .ref (n 10), .ref (n 11), .ref (n 12), .int (nI mmoreMany), .int mlawNow, .int mwetSet, .int moverAll, .ref (n 13), .ref (n 14), .ref (n 15), .int mones, .int mtwos, .int mgone, .ref (n 16), .ref (n 17), .int mroundNow, .ref (n 18), .long msampleFor, .long msampleAll, .ref (n 19), .int maskWorst, .long moftenAll, .long moftenView, .long moftenOnes, .ref (n 20), .ref (n 21), .ref (n 22), .ref (n 23)])), ((n 4), .inl (k 1, 600, .inl ftape)), ((n 6), .inl (k 0, 99, .inl (u_42.2.2.1 0)))] H := hP.sub [1, 2, 0] rfl
          have hD : va_D A [((n 0), .inr (11, [.int mthrown, .ref (n 1), .ref (n 2), .ref (n 3), .ref (n 4), .int (nI mtaped), .ref (n 5), .int (nI msize), .int (nI (u_62.2.1 0)), .int (nI (u_62.2.1 1)), .int (u_62.1 0), .int (u_62.1 1), .int (u_42.1 2), .int (u_42.1 3), .ref (n 6), .ref (n 7), .ref (n 8), .ref (n 9), .ref (n 10), .ref (n 11), .ref (n 12), .int (nI mmoreMany), .int mlawNow, .int mwetSet, .int moverAll, .ref (n 13), .ref (n 14), .ref (n 15), .int mones, .int mtwos, .int mgone, .ref (n 16), .ref (n 17), .int mroundNow, .ref (n 18), .long msampleFor, .long msampleAll, .ref (n 19), .int maskWorst, .long moftenAll, .long moftenView, .long moftenOnes, .ref (n 20), .ref (n 21), .ref (n 22), .ref (n 23)])), ((n 4), .inl (k 1, 600, .inl ftape)), ((n 6), .inl (k 0, 99, .inl (u_42.2.2.1 0)))] := hD.sub [1, 2, 0] (by decide) rfl
          obtain ⟨hg_63, hg_64, hg_65⟩ := hr_61
          refine lv_aload_n hx hb dX11_readLine_52 rfl (lv_at hl 0 rfl) ?_
          refine x_get S hK hP 0 rfl cfX11 14 lkX11_31 (by decide) rfl dX11_readLine_53 ?_
          refine lv_bipush (v := 8) hx hb dX11_readLine_56 (by decide) ?_
          refine lv_dup2_11 hx hb dX11_readLine_58 rfl rfl ?_
          refine x_iald S hK hP 2 rfl (vp_lit (by decide)) dX11_readLine_59 ?_
          refine lv_topi (fun v_66 ev_66 => ?_)
          refine lv_iconst (v := 1) hx hb dX11_readLine_60 (by decide) ?_
          refine lv_iadd hx hb dX11_readLine_61 ?_
          refine lv_topi (fun v_67 ev_67 => ?_)
          refine x_iast (ws' := fun f_68 => [((n 0), .inr (11, [.int mthrown, .ref (n 1), .ref (n 2), .ref (n 3), .ref (n 4), .int (nI mtaped), .ref (n 5), .int (nI msize), .int (nI (u_62.2.1 0)), .int (nI (u_62.2.1 1)), .int (u_62.1 0), .int (u_62.1 1), .int (u_42.1 2), .int (u_42.1 3), .ref (n 6), .ref (n 7), .ref (n 8), .ref (n 9), .ref (n 10), .ref (n 11), .ref (n 12), .int (nI mmoreMany), .int mlawNow, .int mwetSet, .int moverAll, .ref (n 13), .ref (n 14), .ref (n 15), .int mones, .int mtwos, .int mgone, .ref (n 16), .ref (n 17), .int mroundNow, .ref (n 18), .long msampleFor, .long msampleAll, .ref (n 19), .int maskWorst, .long moftenAll, .long moftenView, .long moftenOnes, .ref (n 20), .ref (n 21), .ref (n 22), .ref (n 23)])), ((n 4), .inl (k 1, 600, .inl ftape)), ((n 6), .inl (k 0, 99, .inl f_68))]) S hK hP hD hS 2 rfl (vp_lit (by decide)) (fun _ => rfl) dX11_readLine_62 (fun f_68 H locs ef_68 hP hD hS => ?_)
          obtain ⟨hif_68, hbf_68⟩ := okW_hi ef_68 hi_45 (a := 8) (by decide) (by omega) (by omega)
          exact x_retv S hr hlk hQ hS ((fun i => ([(u_62.1 0), (u_62.1 1), (u_42.1 2), (u_42.1 3)] : List (Int32)).getD i 0), (fun i => ([u_62.2.1 0, u_62.2.1 1] : List (Nat)).getD i 0), (fun i => ([f_68] : List (Nat → Int32)).getD i (fun _ => 0)), (fun i => ([] : List (Nat → Int64)).getD i (fun _ => 0)), (fun i => ([] : List (Int64)).getD i 0)) ⟨(show u_62.2.1 0 ≤ 600 by omega), (show u_62.2.1 1 ≤ 600 by omega), hif_68, (show mfrom ≤ u_62.2.1 1 ∧ u_62.2.1 1 ≤ u_62.2.1 0 by omega), (fun hz => (show mfrom < u_62.2.1 1 by have k_69 := hg_47 hz; omega))⟩ (x_B hP hD) dX11_readLine_63
      · skip
        refine lv_aload_n hx hb dX11_readLine_36 rfl (lv_at hl 0 rfl) ?_
        refine lv_iconst (v := 1) hx hb dX11_readLine_37 (by decide) ?_
        refine x_muVv (wr := [((n 4), .inl (k 1, 600, .inl ftape)), ((n 6), .inl (k 0, 99, .inl (u_42.2.2.1 0)))]) (As := [.int 1]) S hK hP hD hZ hS hA hl mwX11_errs lkX11_168 (ctX11_errs l D k z n mthrown mtaped msize (u_42.2.1 0) (u_42.2.1 1) (u_42.1 0) (u_42.1 1) (u_42.1 2) (u_42.1 3) mmoreMany mlawNow mwetSet moverAll mones mtwos mgone mroundNow msampleFor msampleAll maskWorst moftenAll moftenView moftenOnes 1 (by omega) (by omega) (by omega) (by omega) (by omega) (by omega) (by omega)) [0] [1, 2] rfl rfl (by decide) (by decide) (by decide) rfl rfl rfl rfl rfl ⟨Nat.le_of_ble_eq_true rfl, Nat.le_of_ble_eq_true rfl, Nat.le_of_ble_eq_true rfl⟩ dX11_readLine_38 ⟨Nat.le_of_ble_eq_true rfl, Nat.le_of_ble_eq_true rfl⟩ (fun u_71 H locs hr_70 hP hD hS => ?_)
        have hP : va_P D vwCl [((n 0), .inr (11, [.int mthrown, .ref (n 1), .ref (n 2), .ref (n 3), .ref (n 4), .int (nI mtaped), .ref (n 5), .int (nI msize), .int (nI (u_42.2.1 0)), .int (nI (u_42.2.1 1)), .int (u_42.1 0), .int (u_42.1 1), .int (u_71.1 0), .int (u_71.1 1), .ref (n 6), .ref (n 7), .ref (n 8), .ref (n 9), .ref (n 10), .ref (n 11), .ref (n 12), .int (nI mmoreMany), .int mlawNow, .int mwetSet, .int moverAll, .ref (n 13), .ref (n 14), .ref (n 15), .int mones, .int mtwos, .int mgone, .ref (n 16), .ref (n 17), .int mroundNow, .ref (n 18), .long msampleFor, .long msampleAll, .ref (n 19), .int maskWorst, .long moftenAll, .long moftenView, .long moftenOnes, .ref (n 20), .ref (n 21), .ref (n 22), .ref (n 23)])), ((n 4), .inl (k 1, 600, .inl ftape)), ((n 6), .inl (k 0, 99, .inl (u_42.2.2.1 0)))] H := hP.sub [2, 0, 1] rfl
        have hD : va_D A [((n 0), .inr (11, [.int mthrown, .ref (n 1), .ref (n 2), .ref (n 3), .ref (n 4), .int (nI mtaped), .ref (n 5), .int (nI msize), .int (nI (u_42.2.1 0)), .int (nI (u_42.2.1 1)), .int (u_42.1 0), .int (u_42.1 1), .int (u_71.1 0), .int (u_71.1 1), .ref (n 6), .ref (n 7), .ref (n 8), .ref (n 9), .ref (n 10), .ref (n 11), .ref (n 12), .int (nI mmoreMany), .int mlawNow, .int mwetSet, .int moverAll, .ref (n 13), .ref (n 14), .ref (n 15), .int mones, .int mtwos, .int mgone, .ref (n 16), .ref (n 17), .int mroundNow, .ref (n 18), .long msampleFor, .long msampleAll, .ref (n 19), .int maskWorst, .long moftenAll, .long moftenView, .long moftenOnes, .ref (n 20), .ref (n 21), .ref (n 22), .ref (n 23)])), ((n 4), .inl (k 1, 600, .inl ftape)), ((n 6), .inl (k 0, 99, .inl (u_42.2.2.1 0)))] := hD.sub [2, 0, 1] (by decide) rfl
        have hg_72 := hr_70
        refine lv_aload_n hx hb dX11_readLine_41 rfl (lv_at hl 0 rfl) ?_
        refine x_roVi (As := []) S hK hP hD hZ (fun _ h => h) hA hS hA hl mwX11_good lkX11_146 (ctX11_good l D k z n mthrown mtaped msize (u_42.2.1 0) (u_42.2.1 1) (u_42.1 0) (u_42.1 1) (u_71.1 0) (u_71.1 1) mmoreMany mlawNow mwetSet moverAll mones mtwos mgone mroundNow msampleFor msampleAll maskWorst moftenAll moftenView moftenOnes (by omega) (by omega) (by omega) (by omega) (by omega)) [0] rfl (by decide) rfl rfl rfl rfl rfl ⟨Nat.le_of_ble_eq_true rfl, Nat.le_of_ble_eq_true rfl, Nat.le_of_ble_eq_true rfl⟩ dX11_readLine_42 ⟨Nat.le_of_ble_eq_true rfl, Nat.le_of_ble_eq_true rfl⟩ (fun r_73 H locs hr_73 hP hS => ?_)
        obtain rfl := hr_73
        refine lv_if_eq (tgt := 52) hx hb dX11_readLine_45 (by decide) (fun c_75 => ?_) (fun c_75 => ?_)
        · skip
          have c_75 : ¬ ((u_71.1 0) = 0) := bo_0.mp c_75
          refine lv_aload_n hx hb dX11_readLine_52 rfl (lv_at hl 0 rfl) ?_
          refine x_get S hK hP 0 rfl cfX11 14 lkX11_31 (by decide) rfl dX11_readLine_53 ?_
          refine lv_bipush (v := 8) hx hb dX11_readLine_56 (by decide) ?_
          refine lv_dup2_11 hx hb dX11_readLine_58 rfl rfl ?_
          refine x_iald S hK hP 2 rfl (vp_lit (by decide)) dX11_readLine_59 ?_
          refine lv_topi (fun v_76 ev_76 => ?_)
          refine lv_iconst (v := 1) hx hb dX11_readLine_60 (by decide) ?_
          refine lv_iadd hx hb dX11_readLine_61 ?_
          refine lv_topi (fun v_77 ev_77 => ?_)
          refine x_iast (ws' := fun f_78 => [((n 0), .inr (11, [.int mthrown, .ref (n 1), .ref (n 2), .ref (n 3), .ref (n 4), .int (nI mtaped), .ref (n 5), .int (nI msize), .int (nI (u_42.2.1 0)), .int (nI (u_42.2.1 1)), .int (u_42.1 0), .int (u_42.1 1), .int (u_71.1 0), .int (u_71.1 1), .ref (n 6), .ref (n 7), .ref (n 8), .ref (n 9), .ref (n 10), .ref (n 11), .ref (n 12), .int (nI mmoreMany), .int mlawNow, .int mwetSet, .int moverAll, .ref (n 13), .ref (n 14), .ref (n 15), .int mones, .int mtwos, .int mgone, .ref (n 16), .ref (n 17), .int mroundNow, .ref (n 18), .long msampleFor, .long msampleAll, .ref (n 19), .int maskWorst, .long moftenAll, .long moftenView, .long moftenOnes, .ref (n 20), .ref (n 21), .ref (n 22), .ref (n 23)])), ((n 4), .inl (k 1, 600, .inl ftape)), ((n 6), .inl (k 0, 99, .inl f_78))]) S hK hP hD hS 2 rfl (vp_lit (by decide)) (fun _ => rfl) dX11_readLine_62 (fun f_78 H locs ef_78 hP hD hS => ?_)
          obtain ⟨hif_78, hbf_78⟩ := okW_hi ef_78 hi_45 (a := 8) (by decide) (by omega) (by omega)
          exact x_retv S hr hlk hQ hS ((fun i => ([(u_42.1 0), (u_42.1 1), (u_71.1 0), (u_71.1 1)] : List (Int32)).getD i 0), (fun i => ([u_42.2.1 0, u_42.2.1 1] : List (Nat)).getD i 0), (fun i => ([f_78] : List (Nat → Int32)).getD i (fun _ => 0)), (fun i => ([] : List (Nat → Int64)).getD i (fun _ => 0)), (fun i => ([] : List (Int64)).getD i 0)) ⟨(show u_42.2.1 0 ≤ 600 by omega), (show u_42.2.1 1 ≤ 600 by omega), hif_78, (show mfrom ≤ u_42.2.1 1 ∧ u_42.2.1 1 ≤ u_42.2.1 0 by omega), (fun hz => absurd hz c_75)⟩ (x_B hP hD) dX11_readLine_63
        · skip
          have c_75 : (u_71.1 0) = 0 := bo_1.mp c_75
          exact absurd c_75 hg_72

set_option maxHeartbeats 4000000 in
set_option maxRecDepth 100000 in
theorem ctX11_garden (l : Launch) (D : va_G) (k : Nat → ClassId) (z : Nat → Nat) (n : Nat → Nat) (mthrown : Int32) (mtaped : Nat) (msize : Nat) (mat : Nat) (mfrom : Nat) (mtoken : Int32) (mvalue : Int32) (mfaultKind : Int32) (mfaultPlace : Int32) (mmoreMany : Nat) (mlawNow : Int32) (mwetSet : Int32) (moverAll : Int32) (mones : Int32) (mtwos : Int32) (mgone : Int32) (mroundNow : Int32) (msampleFor : Int64) (msampleAll : Int64) (maskWorst : Int32) (moftenAll : Int64) (moftenView : Int64) (moftenOnes : Int64) (ftape : Nat → Int32) (ffresh : Nat → Int32) (fworld : Nat → Int32) (hmtaped : mtaped ≤ 600) (hmsize : msize ≤ 600) (hmat : mat ≤ 600) (hmfrom : mfrom ≤ 600) (hmmoreMany : mmoreMany ≤ 14) (hkfresh : okW ffresh) (hkworld : okW fworld) : MU l yX11_garden cX11_garden 2 (some .int) 12 D k z [.ref (n 0)] [((n 0), .inr (11, [.int mthrown, .ref (n 1), .ref (n 2), .ref (n 3), .ref (n 4), .int (nI mtaped), .ref (n 5), .int (nI msize), .int (nI mat), .int (nI mfrom), .int mtoken, .int mvalue, .int mfaultKind, .int mfaultPlace, .ref (n 6), .ref (n 7), .ref (n 8), .ref (n 9), .ref (n 10), .ref (n 11), .ref (n 12), .int (nI mmoreMany), .int mlawNow, .int mwetSet, .int moverAll, .ref (n 13), .ref (n 14), .ref (n 15), .int mones, .int mtwos, .int mgone, .ref (n 16), .ref (n 17), .int mroundNow, .ref (n 18), .long msampleFor, .long msampleAll, .ref (n 19), .int maskWorst, .long moftenAll, .long moftenView, .long moftenOnes, .ref (n 20), .ref (n 21), .ref (n 22), .ref (n 23)])), ((n 4), .inl (k 1, 600, .inl ftape)), ((n 6), .inl (k 0, 99, .inl ffresh)), ((n 1), .inl (k 0, 99, .inl fworld))] 0 0 (Ui D (fun (r : Int32) (u : (Nat → Int32) × (Nat → Nat) × (Nat → Nat → Int32) × (Nat → Nat → Int64) × (Nat → Int64)) => (u.2.1 0 ≤ 600) ∧ (u.2.1 1 ≤ 600) ∧ (u.2.1 2 ≤ 600) ∧ (u.2.1 3 ≤ 600) ∧ (okW (u.2.2.1 0)) ∧ (okW (u.2.2.1 1))) (fun u : (Nat → Int32) × (Nat → Nat) × (Nat → Nat → Int32) × (Nat → Nat → Int64) × (Nat → Int64) => [((n 0), .inr (11, [.int mthrown, .ref (n 1), .ref (n 2), .ref (n 3), .ref (n 4), .int (nI (u.2.1 0)), .ref (n 5), .int (nI (u.2.1 1)), .int (nI (u.2.1 2)), .int (nI (u.2.1 3)), .int (u.1 0), .int (u.1 1), .int (u.1 2), .int (u.1 3), .ref (n 6), .ref (n 7), .ref (n 8), .ref (n 9), .ref (n 10), .ref (n 11), .ref (n 12), .int (nI mmoreMany), .int mlawNow, .int mwetSet, .int moverAll, .ref (n 13), .ref (n 14), .ref (n 15), .int mones, .int mtwos, .int mgone, .ref (n 16), .ref (n 17), .int mroundNow, .ref (n 18), .long msampleFor, .long msampleAll, .ref (n 19), .int maskWorst, .long moftenAll, .long moftenView, .long moftenOnes, .ref (n 20), .ref (n 21), .ref (n 22), .ref (n 23)])), ((n 4), .inl (k 1, 600, .inl ftape)), ((n 6), .inl (k 0, 99, .inl (u.2.2.1 1))), ((n 1), .inl (k 0, 99, .inl (u.2.2.1 0)))])) := by
  refine MU.of (by decide) (Nat.le_of_ble_eq_true rfl) ?_
  intro p e s m below meth c ls A args Q S hr hlk hnm hQ hK hP hD hZ hA hS hl
  have hx := S.1
  have hb := S.2.1
  have hl : lv_has ls 2 [(0, .ref (n 0))] := hl
  have hbffresh := okW_bd hkfresh
  have hbfworld := okW_bd hkworld
  refine lv_aload_n hx hb dX11_garden_0 rfl (lv_at hl 0 rfl) ?_
  refine lv_aload_n hx hb dX11_garden_1 rfl (lv_at hl 0 rfl) ?_
  refine x_get S hK hP 0 rfl cfX11 5 lkX11_106 (by decide) rfl dX11_garden_2 ?_
  refine x_put (ws' := [((n 0), .inr (11, [.int mthrown, .ref (n 1), .ref (n 2), .ref (n 3), .ref (n 4), .int (nI mtaped), .ref (n 5), .int (nI mtaped), .int (nI mat), .int (nI mfrom), .int mtoken, .int mvalue, .int mfaultKind, .int mfaultPlace, .ref (n 6), .ref (n 7), .ref (n 8), .ref (n 9), .ref (n 10), .ref (n 11), .ref (n 12), .int (nI mmoreMany), .int mlawNow, .int mwetSet, .int moverAll, .ref (n 13), .ref (n 14), .ref (n 15), .int mones, .int mtwos, .int mgone, .ref (n 16), .ref (n 17), .int mroundNow, .ref (n 18), .long msampleFor, .long msampleAll, .ref (n 19), .int maskWorst, .long moftenAll, .long moftenView, .long moftenOnes, .ref (n 20), .ref (n 21), .ref (n 22), .ref (n 23)])), ((n 4), .inl (k 1, 600, .inl ftape)), ((n 6), .inl (k 0, 99, .inl ffresh)), ((n 1), .inl (k 0, 99, .inl fworld))]) S hK hP hD hS 0 rfl cfX11 7 lkX11_109 (by decide) rfl rfl rfl (Nat.le_of_ble_eq_true rfl) rfl dX11_garden_5 (fun H locs hP hD hS => ?_)
  refine lv_aload_n hx hb dX11_garden_8 rfl (lv_at hl 0 rfl) ?_
  refine lv_iconst (v := 0) hx hb dX11_garden_9 (by decide) ?_
  refine x_put (ws' := [((n 0), .inr (11, [.int mthrown, .ref (n 1), .ref (n 2), .ref (n 3), .ref (n 4), .int 0, .ref (n 5), .int (nI mtaped), .int (nI mat), .int (nI mfrom), .int mtoken, .int mvalue, .int mfaultKind, .int mfaultPlace, .ref (n 6), .ref (n 7), .ref (n 8), .ref (n 9), .ref (n 10), .ref (n 11), .ref (n 12), .int (nI mmoreMany), .int mlawNow, .int mwetSet, .int moverAll, .ref (n 13), .ref (n 14), .ref (n 15), .int mones, .int mtwos, .int mgone, .ref (n 16), .ref (n 17), .int mroundNow, .ref (n 18), .long msampleFor, .long msampleAll, .ref (n 19), .int maskWorst, .long moftenAll, .long moftenView, .long moftenOnes, .ref (n 20), .ref (n 21), .ref (n 22), .ref (n 23)])), ((n 4), .inl (k 1, 600, .inl ftape)), ((n 6), .inl (k 0, 99, .inl ffresh)), ((n 1), .inl (k 0, 99, .inl fworld))]) S hK hP hD hS 0 rfl cfX11 5 lkX11_106 (by decide) rfl rfl rfl (Nat.le_of_ble_eq_true rfl) rfl dX11_garden_10 (fun H locs hP hD hS => ?_)
  refine lv_aload_n hx hb dX11_garden_13 rfl (lv_at hl 0 rfl) ?_
  refine lv_iconst (v := 0) hx hb dX11_garden_14 (by decide) ?_
  refine x_put (ws' := [((n 0), .inr (11, [.int mthrown, .ref (n 1), .ref (n 2), .ref (n 3), .ref (n 4), .int 0, .ref (n 5), .int (nI mtaped), .int 0, .int (nI mfrom), .int mtoken, .int mvalue, .int mfaultKind, .int mfaultPlace, .ref (n 6), .ref (n 7), .ref (n 8), .ref (n 9), .ref (n 10), .ref (n 11), .ref (n 12), .int (nI mmoreMany), .int mlawNow, .int mwetSet, .int moverAll, .ref (n 13), .ref (n 14), .ref (n 15), .int mones, .int mtwos, .int mgone, .ref (n 16), .ref (n 17), .int mroundNow, .ref (n 18), .long msampleFor, .long msampleAll, .ref (n 19), .int maskWorst, .long moftenAll, .long moftenView, .long moftenOnes, .ref (n 20), .ref (n 21), .ref (n 22), .ref (n 23)])), ((n 4), .inl (k 1, 600, .inl ftape)), ((n 6), .inl (k 0, 99, .inl ffresh)), ((n 1), .inl (k 0, 99, .inl fworld))]) S hK hP hD hS 0 rfl cfX11 8 lkX11_112 (by decide) rfl rfl rfl (Nat.le_of_ble_eq_true rfl) rfl dX11_garden_15 (fun H locs hP hD hS => ?_)
  refine lv_aload_n hx hb dX11_garden_18 rfl (lv_at hl 0 rfl) ?_
  refine lv_iconst (v := 0) hx hb dX11_garden_19 (by decide) ?_
  refine x_put (ws' := [((n 0), .inr (11, [.int mthrown, .ref (n 1), .ref (n 2), .ref (n 3), .ref (n 4), .int 0, .ref (n 5), .int (nI mtaped), .int 0, .int (nI mfrom), .int mtoken, .int mvalue, .int 0, .int mfaultPlace, .ref (n 6), .ref (n 7), .ref (n 8), .ref (n 9), .ref (n 10), .ref (n 11), .ref (n 12), .int (nI mmoreMany), .int mlawNow, .int mwetSet, .int moverAll, .ref (n 13), .ref (n 14), .ref (n 15), .int mones, .int mtwos, .int mgone, .ref (n 16), .ref (n 17), .int mroundNow, .ref (n 18), .long msampleFor, .long msampleAll, .ref (n 19), .int maskWorst, .long moftenAll, .long moftenView, .long moftenOnes, .ref (n 20), .ref (n 21), .ref (n 22), .ref (n 23)])), ((n 4), .inl (k 1, 600, .inl ftape)), ((n 6), .inl (k 0, 99, .inl ffresh)), ((n 1), .inl (k 0, 99, .inl fworld))]) S hK hP hD hS 0 rfl cfX11 12 lkX11_143 (by decide) rfl rfl rfl (Nat.le_of_ble_eq_true rfl) rfl dX11_garden_20 (fun H locs hP hD hS => ?_)
  refine lv_aload_n hx hb dX11_garden_23 rfl (lv_at hl 0 rfl) ?_
  refine lv_iconst (v := (-1)) hx hb dX11_garden_24 (by decide) ?_
  refine x_put (ws' := [((n 0), .inr (11, [.int mthrown, .ref (n 1), .ref (n 2), .ref (n 3), .ref (n 4), .int 0, .ref (n 5), .int (nI mtaped), .int 0, .int (nI mfrom), .int mtoken, .int mvalue, .int 0, .int (-1), .ref (n 6), .ref (n 7), .ref (n 8), .ref (n 9), .ref (n 10), .ref (n 11), .ref (n 12), .int (nI mmoreMany), .int mlawNow, .int mwetSet, .int moverAll, .ref (n 13), .ref (n 14), .ref (n 15), .int mones, .int mtwos, .int mgone, .ref (n 16), .ref (n 17), .int mroundNow, .ref (n 18), .long msampleFor, .long msampleAll, .ref (n 19), .int maskWorst, .long moftenAll, .long moftenView, .long moftenOnes, .ref (n 20), .ref (n 21), .ref (n 22), .ref (n 23)])), ((n 4), .inl (k 1, 600, .inl ftape)), ((n 6), .inl (k 0, 99, .inl ffresh)), ((n 1), .inl (k 0, 99, .inl fworld))]) S hK hP hD hS 0 rfl cfX11 13 lkX11_27 (by decide) rfl rfl rfl (Nat.le_of_ble_eq_true rfl) rfl dX11_garden_25 (fun H locs hP hD hS => ?_)
  refine lv_iconst (v := 0) hx hb dX11_garden_28 (by decide) ?_
  refine lv_istore_n (lv' := [(1, .int 0), (0, .ref (n 0))]) hx hb dX11_garden_29 rfl hl (by decide) rfl (fun ls hl => ?_)
  have lp_10 : ∀ (nn j_8 : Nat) (g_9 : Nat → Int32) (H : Heap) (locs : List Loc) (ls : Array Slot), j_8 ≤ 99 → 99 - j_8 < nn → (∀ i, i < j_8 → g_9 i = 0) → va_P D vwCl [((n 0), .inr (11, [.int mthrown, .ref (n 1), .ref (n 2), .ref (n 3), .ref (n 4), .int 0, .ref (n 5), .int (nI mtaped), .int 0, .int (nI mfrom), .int mtoken, .int mvalue, .int 0, .int (-1), .ref (n 6), .ref (n 7), .ref (n 8), .ref (n 9), .ref (n 10), .ref (n 11), .ref (n 12), .int (nI mmoreMany), .int mlawNow, .int mwetSet, .int moverAll, .ref (n 13), .ref (n 14), .ref (n 15), .int mones, .int mtwos, .int mgone, .ref (n 16), .ref (n 17), .int mroundNow, .ref (n 18), .long msampleFor, .long msampleAll, .ref (n 19), .int maskWorst, .long moftenAll, .long moftenView, .long moftenOnes, .ref (n 20), .ref (n 21), .ref (n 22), .ref (n 23)])), ((n 4), .inl (k 1, 600, .inl ftape)), ((n 6), .inl (k 0, 99, .inl g_9)), ((n 1), .inl (k 0, 99, .inl fworld))] H → va_D A [((n 0), .inr (11, [.int mthrown, .ref (n 1), .ref (n 2), .ref (n 3), .ref (n 4), .int 0, .ref (n 5), .int (nI mtaped), .int 0, .int (nI mfrom), .int mtoken, .int mvalue, .int 0, .int (-1), .ref (n 6), .ref (n 7), .ref (n 8), .ref (n 9), .ref (n 10), .ref (n 11), .ref (n 12), .int (nI mmoreMany), .int mlawNow, .int mwetSet, .int moverAll, .ref (n 13), .ref (n 14), .ref (n 15), .int mones, .int mtwos, .int mgone, .ref (n 16), .ref (n 17), .int mroundNow, .ref (n 18), .long msampleFor, .long msampleAll, .ref (n 19), .int maskWorst, .long moftenAll, .long moftenView, .long moftenOnes, .ref (n 20), .ref (n 21), .ref (n 22), .ref (n 23)])), ((n 4), .inl (k 1, 600, .inl ftape)), ((n 6), .inl (k 0, 99, .inl g_9)), ((n 1), .inl (k 0, 99, .inl fworld))] → va_S A s.heap H locs → lv_has ls 2 [(1, .int (nI j_8)), (0, .ref (n 0))] → W p l e (Rm 12 0 0) s m args below meth c H locs 0 0 Q (F0 m 30 ls []) := by
    intro nn
    induction nn with
    | zero => intro j_8 g_9 H locs ls hjj_8 hnj_8 hz0; exact absurd hnj_8 (by omega)
    | succ nn ihj_8 =>
      intro j_8 g_9 H locs ls hjj_8 hnj_8 hz0 hP hD hS hl
      refine lv_iload_n hx hb dX11_garden_30 rfl (lv_at hl 0 rfl) ?_
      refine lv_bipush (v := 99) hx hb dX11_garden_31 (by decide) ?_
      refine lv_icmp_ge (tgt := 49) hx hb dX11_garden_33 (by decide) (fun c_11 => ?_) (fun c_11 => ?_)
      · skip
        have c_11 : 99 ≤ j_8 := (ni_le (by decide) rfl (by omega) (by omega)).mp c_11
        have hW0 := okW_zero hz0 (by omega)
        have hbW0 := okW_bd hW0
        refine lv_aload_n hx hb dX11_garden_49 rfl (lv_at hl 1 rfl) ?_
        refine x_muVv (wr := [((n 6), .inl (k 0, 99, .inl g_9)), ((n 1), .inl (k 0, 99, .inl fworld))]) (As := []) S hK hP hD hZ hS hA hl mwX11_advance lkX11_162 (ctX11_advance l D k z n mthrown 0 mtaped 0 mfrom mtoken mvalue 0 (-1) mmoreMany mlawNow mwetSet moverAll mones mtwos mgone mroundNow msampleFor msampleAll maskWorst moftenAll moftenView moftenOnes ftape (by omega) (by omega) (by omega) (by omega) (by omega)) [0, 1] [2, 3] rfl rfl (by decide) (by decide) (by decide) rfl rfl rfl rfl rfl ⟨Nat.le_of_ble_eq_true rfl, Nat.le_of_ble_eq_true rfl, Nat.le_of_ble_eq_true rfl⟩ dX11_garden_50 ⟨Nat.le_of_ble_eq_true rfl, Nat.le_of_ble_eq_true rfl⟩ (fun u_13 H locs hr_12 hP hD hS => ?_)
        have hP : va_P D vwCl [((n 0), .inr (11, [.int mthrown, .ref (n 1), .ref (n 2), .ref (n 3), .ref (n 4), .int (nI 0), .ref (n 5), .int (nI mtaped), .int (nI (u_13.2.1 0)), .int (nI (u_13.2.1 1)), .int (u_13.1 0), .int (u_13.1 1), .int 0, .int (-1), .ref (n 6), .ref (n 7), .ref (n 8), .ref (n 9), .ref (n 10), .ref (n 11), .ref (n 12), .int (nI mmoreMany), .int mlawNow, .int mwetSet, .int moverAll, .ref (n 13), .ref (n 14), .ref (n 15), .int mones, .int mtwos, .int mgone, .ref (n 16), .ref (n 17), .int mroundNow, .ref (n 18), .long msampleFor, .long msampleAll, .ref (n 19), .int maskWorst, .long moftenAll, .long moftenView, .long moftenOnes, .ref (n 20), .ref (n 21), .ref (n 22), .ref (n 23)])), ((n 4), .inl (k 1, 600, .inl ftape)), ((n 6), .inl (k 0, 99, .inl g_9)), ((n 1), .inl (k 0, 99, .inl fworld))] H := hP.sub [2, 3, 0, 1] rfl
        have hD : va_D A [((n 0), .inr (11, [.int mthrown, .ref (n 1), .ref (n 2), .ref (n 3), .ref (n 4), .int (nI 0), .ref (n 5), .int (nI mtaped), .int (nI (u_13.2.1 0)), .int (nI (u_13.2.1 1)), .int (u_13.1 0), .int (u_13.1 1), .int 0, .int (-1), .ref (n 6), .ref (n 7), .ref (n 8), .ref (n 9), .ref (n 10), .ref (n 11), .ref (n 12), .int (nI mmoreMany), .int mlawNow, .int mwetSet, .int moverAll, .ref (n 13), .ref (n 14), .ref (n 15), .int mones, .int mtwos, .int mgone, .ref (n 16), .ref (n 17), .int mroundNow, .ref (n 18), .long msampleFor, .long msampleAll, .ref (n 19), .int maskWorst, .long moftenAll, .long moftenView, .long moftenOnes, .ref (n 20), .ref (n 21), .ref (n 22), .ref (n 23)])), ((n 4), .inl (k 1, 600, .inl ftape)), ((n 6), .inl (k 0, 99, .inl g_9)), ((n 1), .inl (k 0, 99, .inl fworld))] := hD.sub [2, 3, 0, 1] (by decide) rfl
        obtain ⟨hg_14, hg_15, hg_16⟩ := hr_12
        have lp_62 : ∀ (nn j_55 : Nat) (m_56 : Nat) (x_57 : Int32) (x_58 : Int32) (x_59 : Int32) (x_60 : Int32) (g_61 : Nat → Int32) (H : Heap) (locs : List Loc) (ls : Array Slot), j_55 ≤ 600 → 600 - j_55 < nn → m_56 ≤ 600 → j_55 ≤ m_56 → okW g_61 → va_P D vwCl [((n 0), .inr (11, [.int mthrown, .ref (n 1), .ref (n 2), .ref (n 3), .ref (n 4), .int (nI 0), .ref (n 5), .int (nI mtaped), .int (nI m_56), .int (nI j_55), .int x_57, .int x_58, .int x_59, .int x_60, .ref (n 6), .ref (n 7), .ref (n 8), .ref (n 9), .ref (n 10), .ref (n 11), .ref (n 12), .int (nI mmoreMany), .int mlawNow, .int mwetSet, .int moverAll, .ref (n 13), .ref (n 14), .ref (n 15), .int mones, .int mtwos, .int mgone, .ref (n 16), .ref (n 17), .int mroundNow, .ref (n 18), .long msampleFor, .long msampleAll, .ref (n 19), .int maskWorst, .long moftenAll, .long moftenView, .long moftenOnes, .ref (n 20), .ref (n 21), .ref (n 22), .ref (n 23)])), ((n 4), .inl (k 1, 600, .inl ftape)), ((n 6), .inl (k 0, 99, .inl g_61)), ((n 1), .inl (k 0, 99, .inl fworld))] H → va_D A [((n 0), .inr (11, [.int mthrown, .ref (n 1), .ref (n 2), .ref (n 3), .ref (n 4), .int (nI 0), .ref (n 5), .int (nI mtaped), .int (nI m_56), .int (nI j_55), .int x_57, .int x_58, .int x_59, .int x_60, .ref (n 6), .ref (n 7), .ref (n 8), .ref (n 9), .ref (n 10), .ref (n 11), .ref (n 12), .int (nI mmoreMany), .int mlawNow, .int mwetSet, .int moverAll, .ref (n 13), .ref (n 14), .ref (n 15), .int mones, .int mtwos, .int mgone, .ref (n 16), .ref (n 17), .int mroundNow, .ref (n 18), .long msampleFor, .long msampleAll, .ref (n 19), .int maskWorst, .long moftenAll, .long moftenView, .long moftenOnes, .ref (n 20), .ref (n 21), .ref (n 22), .ref (n 23)])), ((n 4), .inl (k 1, 600, .inl ftape)), ((n 6), .inl (k 0, 99, .inl g_61)), ((n 1), .inl (k 0, 99, .inl fworld))] → va_S A s.heap H locs → lv_has ls 2 [(1, .int (nI j_8)), (0, .ref (n 0))] → W p l e (Rm 12 0 0) s m args below meth c H locs 0 0 Q (F0 m 53 ls []) := by
          intro nn
          induction nn with
          | zero => intro j_55 m_56 x_57 x_58 x_59 x_60 g_61 H locs ls hjj_55 hnj_55 hbm_56 hr1j_55 hig_61; exact absurd hnj_55 (by omega)
          | succ nn ihj_55 =>
            intro j_55 m_56 x_57 x_58 x_59 x_60 g_61 H locs ls hjj_55 hnj_55 hbm_56 hr1j_55 hig_61 hP hD hS hl
            have hbg_61 := okW_bd hig_61
            refine lv_aload_n hx hb dX11_garden_53 rfl (lv_at hl 1 rfl) ?_
            refine x_roVi (As := []) S hK hP hD hZ (fun _ h => h) hA hS hA hl mwX11_good lkX11_146 (ctX11_good l D k z n mthrown 0 mtaped m_56 j_55 x_57 x_58 x_59 x_60 mmoreMany mlawNow mwetSet moverAll mones mtwos mgone mroundNow msampleFor msampleAll maskWorst moftenAll moftenView moftenOnes (by omega) (by omega) (by omega) (by omega) (by omega)) [0] rfl (by decide) rfl rfl rfl rfl rfl ⟨Nat.le_of_ble_eq_true rfl, Nat.le_of_ble_eq_true rfl, Nat.le_of_ble_eq_true rfl⟩ dX11_garden_54 ⟨Nat.le_of_ble_eq_true rfl, Nat.le_of_ble_eq_true rfl⟩ (fun r_63 H locs hr_63 hP hS => ?_)
            obtain rfl := hr_63
            refine lv_if_eq (tgt := 74) hx hb dX11_garden_57 (by decide) (fun c_65 => ?_) (fun c_65 => ?_)
            · skip
              have c_65 : ¬ (x_59 = 0) := bo_0.mp c_65
              refine lv_aload_n hx hb dX11_garden_74 rfl (lv_at hl 1 rfl) ?_
              refine x_roVi (As := []) S hK hP hD hZ (fun _ h => h) hA hS hA hl mwX11_good lkX11_146 (ctX11_good l D k z n mthrown 0 mtaped m_56 j_55 x_57 x_58 x_59 x_60 mmoreMany mlawNow mwetSet moverAll mones mtwos mgone mroundNow msampleFor msampleAll maskWorst moftenAll moftenView moftenOnes (by omega) (by omega) (by omega) (by omega) (by omega)) [0] rfl (by decide) rfl rfl rfl rfl rfl ⟨Nat.le_of_ble_eq_true rfl, Nat.le_of_ble_eq_true rfl, Nat.le_of_ble_eq_true rfl⟩ dX11_garden_75 ⟨Nat.le_of_ble_eq_true rfl, Nat.le_of_ble_eq_true rfl⟩ (fun r_66 H locs hr_66 hP hS => ?_)
              obtain rfl := hr_66
              refine lv_if_ne (tgt := 84) hx hb dX11_garden_78 (by decide) (fun c_68 => ?_) (fun c_68 => ?_)
              · skip
                have c_68 : x_59 = 0 := bo_1.mp c_68
                exact absurd c_68 c_65
              · skip
                have c_68 : ¬ (x_59 = 0) := bo_0.mp c_68
                refine lv_bipush (v := (-4)) hx hb dX11_garden_81 (by decide) ?_
                exact x_reti S hr hlk hQ hS ((fun i => ([x_57, x_58, x_59, x_60] : List (Int32)).getD i 0), (fun i => ([0, mtaped, m_56, j_55] : List (Nat)).getD i 0), (fun i => ([fworld, g_61] : List (Nat → Int32)).getD i (fun _ => 0)), (fun i => ([] : List (Nat → Int64)).getD i (fun _ => 0)), (fun i => ([] : List (Int64)).getD i 0)) ⟨(show 0 ≤ 600 by omega), (show mtaped ≤ 600 by omega), (show m_56 ≤ 600 by omega), (show j_55 ≤ 600 by omega), hkworld, hig_61⟩ (x_B hP hD) dX11_garden_83
            · skip
              have c_65 : x_59 = 0 := bo_1.mp c_65
              refine lv_aload_n hx hb dX11_garden_60 rfl (lv_at hl 1 rfl) ?_
              refine x_get S hK hP 0 rfl cfX11 10 lkX11_122 (by decide) rfl dX11_garden_61 ?_
              refine lv_if_eq (tgt := 74) hx hb dX11_garden_64 (by decide) (fun c_69 => ?_) (fun c_69 => ?_)
              · skip
                refine lv_aload_n hx hb dX11_garden_74 rfl (lv_at hl 1 rfl) ?_
                refine x_roVi (As := []) S hK hP hD hZ (fun _ h => h) hA hS hA hl mwX11_good lkX11_146 (ctX11_good l D k z n mthrown 0 mtaped m_56 j_55 x_57 x_58 x_59 x_60 mmoreMany mlawNow mwetSet moverAll mones mtwos mgone mroundNow msampleFor msampleAll maskWorst moftenAll moftenView moftenOnes (by omega) (by omega) (by omega) (by omega) (by omega)) [0] rfl (by decide) rfl rfl rfl rfl rfl ⟨Nat.le_of_ble_eq_true rfl, Nat.le_of_ble_eq_true rfl, Nat.le_of_ble_eq_true rfl⟩ dX11_garden_75 ⟨Nat.le_of_ble_eq_true rfl, Nat.le_of_ble_eq_true rfl⟩ (fun r_70 H locs hr_70 hP hS => ?_)
                obtain rfl := hr_70
                refine lv_if_ne (tgt := 84) hx hb dX11_garden_78 (by decide) (fun c_72 => ?_) (fun c_72 => ?_)
                · skip
                  have c_72 : x_59 = 0 := bo_1.mp c_72
                  refine lv_iconst (v := 0) hx hb dX11_garden_84 (by decide) ?_
                  refine lv_istore_n (lv' := [(1, .int 0), (0, .ref (n 0))]) hx hb dX11_garden_85 rfl hl (by decide) rfl (fun ls hl => ?_)
                  have lp_84 : ∀ (nn j_82 : Nat) (g_83 : Nat → Int32) (H : Heap) (locs : List Loc) (ls : Array Slot), j_82 ≤ 99 → 99 - j_82 < nn → (∀ i, i < j_82 → g_83 i = g_61 i) → va_P D vwCl [((n 0), .inr (11, [.int mthrown, .ref (n 1), .ref (n 2), .ref (n 3), .ref (n 4), .int (nI 0), .ref (n 5), .int (nI mtaped), .int (nI m_56), .int (nI j_55), .int x_57, .int x_58, .int x_59, .int x_60, .ref (n 6), .ref (n 7), .ref (n 8), .ref (n 9), .ref (n 10), .ref (n 11), .ref (n 12), .int (nI mmoreMany), .int mlawNow, .int mwetSet, .int moverAll, .ref (n 13), .ref (n 14), .ref (n 15), .int mones, .int mtwos, .int mgone, .ref (n 16), .ref (n 17), .int mroundNow, .ref (n 18), .long msampleFor, .long msampleAll, .ref (n 19), .int maskWorst, .long moftenAll, .long moftenView, .long moftenOnes, .ref (n 20), .ref (n 21), .ref (n 22), .ref (n 23)])), ((n 4), .inl (k 1, 600, .inl ftape)), ((n 6), .inl (k 0, 99, .inl g_61)), ((n 1), .inl (k 0, 99, .inl g_83))] H → va_D A [((n 0), .inr (11, [.int mthrown, .ref (n 1), .ref (n 2), .ref (n 3), .ref (n 4), .int (nI 0), .ref (n 5), .int (nI mtaped), .int (nI m_56), .int (nI j_55), .int x_57, .int x_58, .int x_59, .int x_60, .ref (n 6), .ref (n 7), .ref (n 8), .ref (n 9), .ref (n 10), .ref (n 11), .ref (n 12), .int (nI mmoreMany), .int mlawNow, .int mwetSet, .int moverAll, .ref (n 13), .ref (n 14), .ref (n 15), .int mones, .int mtwos, .int mgone, .ref (n 16), .ref (n 17), .int mroundNow, .ref (n 18), .long msampleFor, .long msampleAll, .ref (n 19), .int maskWorst, .long moftenAll, .long moftenView, .long moftenOnes, .ref (n 20), .ref (n 21), .ref (n 22), .ref (n 23)])), ((n 4), .inl (k 1, 600, .inl ftape)), ((n 6), .inl (k 0, 99, .inl g_61)), ((n 1), .inl (k 0, 99, .inl g_83))] → va_S A s.heap H locs → lv_has ls 2 [(1, .int (nI j_82)), (0, .ref (n 0))] → W p l e (Rm 12 0 0) s m args below meth c H locs 0 0 Q (F0 m 86 ls []) := by
                    intro nn
                    induction nn with
                    | zero => intro j_82 g_83 H locs ls hjj_82 hnj_82 hcp; exact absurd hnj_82 (by omega)
                    | succ nn ihj_82 =>
                      intro j_82 g_83 H locs ls hjj_82 hnj_82 hcp hP hD hS hl
                      refine lv_iload_n hx hb dX11_garden_86 rfl (lv_at hl 0 rfl) ?_
                      refine lv_bipush (v := 99) hx hb dX11_garden_87 (by decide) ?_
                      refine lv_icmp_ge (tgt := 110) hx hb dX11_garden_89 (by decide) (fun c_85 => ?_) (fun c_85 => ?_)
                      · skip
                        have c_85 : 99 ≤ j_82 := (ni_le (by decide) rfl (by omega) (by omega)).mp c_85
                        have hW1 := okW_congr hig_61 (fun i hi => hcp i (by omega))
                        have hbW1 := okW_bd hW1
                        refine lv_aload_n hx hb dX11_garden_110 rfl (lv_at hl 1 rfl) ?_
                        refine x_get S hK hP 0 rfl cfX11 1 lkX11_9 (by decide) rfl dX11_garden_111 ?_
                        refine lv_bipush (v := 8) hx hb dX11_garden_114 (by decide) ?_
                        refine x_iald S hK hP 3 rfl (vp_lit (by decide)) dX11_garden_116 ?_
                        refine lv_topi (fun v_86 ev_86 => ?_)
                        exact x_reti S hr hlk hQ hS ((fun i => ([x_57, x_58, x_59, x_60] : List (Int32)).getD i 0), (fun i => ([0, mtaped, m_56, j_55] : List (Nat)).getD i 0), (fun i => ([g_83, g_61] : List (Nat → Int32)).getD i (fun _ => 0)), (fun i => ([] : List (Nat → Int64)).getD i (fun _ => 0)), (fun i => ([] : List (Int64)).getD i 0)) ⟨(show 0 ≤ 600 by omega), (show mtaped ≤ 600 by omega), (show m_56 ≤ 600 by omega), (show j_55 ≤ 600 by omega), hW1, hig_61⟩ (x_B hP hD) dX11_garden_117
                      · skip
                        have c_85 : ¬ 99 ≤ j_82 := fun q => c_85 ((ni_le (by decide) rfl (by omega) (by omega)).mpr q)
                        refine lv_aload_n hx hb dX11_garden_92 rfl (lv_at hl 1 rfl) ?_
                        refine x_get S hK hP 0 rfl cfX11 1 lkX11_9 (by decide) rfl dX11_garden_93 ?_
                        refine lv_iload_n hx hb dX11_garden_96 rfl (lv_at hl 0 rfl) ?_
                        refine lv_aload_n hx hb dX11_garden_97 rfl (lv_at hl 1 rfl) ?_
                        refine x_get S hK hP 0 rfl cfX11 14 lkX11_31 (by decide) rfl dX11_garden_98 ?_
                        refine lv_iload_n hx hb dX11_garden_101 rfl (lv_at hl 0 rfl) ?_
                        refine x_iald S hK hP 2 rfl (vp_in_nI (by omega) (by decide)) dX11_garden_102 ?_
                        refine lv_topi (fun v_87 ev_87 => ?_)
                        refine x_iast (ws' := fun f_88 => [((n 0), .inr (11, [.int mthrown, .ref (n 1), .ref (n 2), .ref (n 3), .ref (n 4), .int (nI 0), .ref (n 5), .int (nI mtaped), .int (nI m_56), .int (nI j_55), .int x_57, .int x_58, .int x_59, .int x_60, .ref (n 6), .ref (n 7), .ref (n 8), .ref (n 9), .ref (n 10), .ref (n 11), .ref (n 12), .int (nI mmoreMany), .int mlawNow, .int mwetSet, .int moverAll, .ref (n 13), .ref (n 14), .ref (n 15), .int mones, .int mtwos, .int mgone, .ref (n 16), .ref (n 17), .int mroundNow, .ref (n 18), .long msampleFor, .long msampleAll, .ref (n 19), .int maskWorst, .long moftenAll, .long moftenView, .long moftenOnes, .ref (n 20), .ref (n 21), .ref (n 22), .ref (n 23)])), ((n 4), .inl (k 1, 600, .inl ftape)), ((n 6), .inl (k 0, 99, .inl g_61)), ((n 1), .inl (k 0, 99, .inl f_88))]) S hK hP hD hS 3 rfl (vp_in_nI (by omega) (by decide)) (fun _ => rfl) dX11_garden_103 (fun f_88 H locs ef_88 hP hD hS => ?_)
                        refine lv_iinc (v := (nI (j_82 + 1))) (lv' := [(1, .int (nI (j_82 + 1))), (0, .ref (n 0))]) hx hb dX11_garden_104 hl (k := 0) rfl (ni_inc _) (by decide) rfl (fun ls hl => ?_)
                        refine lv_goto (tgt := 86) hx hb dX11_garden_107 (by decide) ?_
                        exact ihj_82 (j_82 + 1) f_88 _ _ _ (by omega) (by omega) (cp_step hcp ef_88 rfl (ev_87.trans (cl_at (a := j_82) rfl (by omega))) (by omega)) hP hD hS (lv_sub hl [0, 1] rfl)
                  exact lp_84 (99 + 1) 0 fworld _ _ _ (by omega) (by omega) (fun i hi => absurd hi (by omega)) hP hD hS (lv_sub hl [0, 1] rfl)
                · skip
                  have c_72 : ¬ (x_59 = 0) := bo_0.mp c_72
                  exact absurd c_65 c_72
              · skip
                refine lv_aload_n hx hb dX11_garden_67 rfl (lv_at hl 1 rfl) ?_
                refine x_muVv (wr := [((n 1), .inl (k 0, 99, .inl fworld))]) (As := []) S hK hP hD hZ hS hA hl mwX11_readLine lkX11_224 (ctX11_readLine l D k z n mthrown 0 mtaped m_56 j_55 x_57 x_58 x_59 x_60 mmoreMany mlawNow mwetSet moverAll mones mtwos mgone mroundNow msampleFor msampleAll maskWorst moftenAll moftenView moftenOnes ftape g_61 (by omega) (by omega) (by omega) (by omega) (by omega) (hig_61) (by omega)) [0, 1, 2] [3] rfl rfl (by decide) (by decide) (by decide) rfl rfl rfl rfl rfl ⟨Nat.le_of_ble_eq_true rfl, Nat.le_of_ble_eq_true rfl, Nat.le_of_ble_eq_true rfl⟩ dX11_garden_68 ⟨Nat.le_of_ble_eq_true rfl, Nat.le_of_ble_eq_true rfl⟩ (fun u_90 H locs hr_89 hP hD hS => ?_)
                have hP : va_P D vwCl [((n 0), .inr (11, [.int mthrown, .ref (n 1), .ref (n 2), .ref (n 3), .ref (n 4), .int (nI 0), .ref (n 5), .int (nI mtaped), .int (nI (u_90.2.1 0)), .int (nI (u_90.2.1 1)), .int (u_90.1 0), .int (u_90.1 1), .int (u_90.1 2), .int (u_90.1 3), .ref (n 6), .ref (n 7), .ref (n 8), .ref (n 9), .ref (n 10), .ref (n 11), .ref (n 12), .int (nI mmoreMany), .int mlawNow, .int mwetSet, .int moverAll, .ref (n 13), .ref (n 14), .ref (n 15), .int mones, .int mtwos, .int mgone, .ref (n 16), .ref (n 17), .int mroundNow, .ref (n 18), .long msampleFor, .long msampleAll, .ref (n 19), .int maskWorst, .long moftenAll, .long moftenView, .long moftenOnes, .ref (n 20), .ref (n 21), .ref (n 22), .ref (n 23)])), ((n 4), .inl (k 1, 600, .inl ftape)), ((n 6), .inl (k 0, 99, .inl (u_90.2.2.1 0))), ((n 1), .inl (k 0, 99, .inl fworld))] H := hP.sub [1, 2, 3, 0] rfl
                have hD : va_D A [((n 0), .inr (11, [.int mthrown, .ref (n 1), .ref (n 2), .ref (n 3), .ref (n 4), .int (nI 0), .ref (n 5), .int (nI mtaped), .int (nI (u_90.2.1 0)), .int (nI (u_90.2.1 1)), .int (u_90.1 0), .int (u_90.1 1), .int (u_90.1 2), .int (u_90.1 3), .ref (n 6), .ref (n 7), .ref (n 8), .ref (n 9), .ref (n 10), .ref (n 11), .ref (n 12), .int (nI mmoreMany), .int mlawNow, .int mwetSet, .int moverAll, .ref (n 13), .ref (n 14), .ref (n 15), .int mones, .int mtwos, .int mgone, .ref (n 16), .ref (n 17), .int mroundNow, .ref (n 18), .long msampleFor, .long msampleAll, .ref (n 19), .int maskWorst, .long moftenAll, .long moftenView, .long moftenOnes, .ref (n 20), .ref (n 21), .ref (n 22), .ref (n 23)])), ((n 4), .inl (k 1, 600, .inl ftape)), ((n 6), .inl (k 0, 99, .inl (u_90.2.2.1 0))), ((n 1), .inl (k 0, 99, .inl fworld))] := hD.sub [1, 2, 3, 0] (by decide) rfl
                obtain ⟨hg_91, hg_92, hi_93, hg_94, hg_95⟩ := hr_89
                have hbhi_93 := okW_bd hi_93
                by_cases hz_96 : (u_90.1 2) = 0
                · skip
                  have hlt := ((fun hz => And.intro True.intro (hg_95 hz)) hz_96).2
                  refine lv_goto (tgt := 53) hx hb dX11_garden_71 (by decide) ?_
                  exact ihj_55 (u_90.2.1 1) (u_90.2.1 0) (u_90.1 0) (u_90.1 1) (u_90.1 2) (u_90.1 3) (u_90.2.2.1 0) _ _ _ (by omega) (by omega) (by omega) (by omega) hi_93 hP hD hS (lv_sub hl [0, 1] rfl)
                · skip
                  refine lv_goto (tgt := 53) hx hb dX11_garden_71 (by decide) ?_
                  refine lv_aload_n hx hb dX11_garden_53 rfl (lv_at hl 1 rfl) ?_
                  refine x_roVi (As := []) S hK hP hD hZ (fun _ h => h) hA hS hA hl mwX11_good lkX11_146 (ctX11_good l D k z n mthrown 0 mtaped (u_90.2.1 0) (u_90.2.1 1) (u_90.1 0) (u_90.1 1) (u_90.1 2) (u_90.1 3) mmoreMany mlawNow mwetSet moverAll mones mtwos mgone mroundNow msampleFor msampleAll maskWorst moftenAll moftenView moftenOnes (by omega) (by omega) (by omega) (by omega) (by omega)) [0] rfl (by decide) rfl rfl rfl rfl rfl ⟨Nat.le_of_ble_eq_true rfl, Nat.le_of_ble_eq_true rfl, Nat.le_of_ble_eq_true rfl⟩ dX11_garden_54 ⟨Nat.le_of_ble_eq_true rfl, Nat.le_of_ble_eq_true rfl⟩ (fun r_97 H locs hr_97 hP hS => ?_)
                  obtain rfl := hr_97
                  refine lv_if_eq (tgt := 74) hx hb dX11_garden_57 (by decide) (fun c_99 => ?_) (fun c_99 => ?_)
                  · skip
                    have c_99 : ¬ ((u_90.1 2) = 0) := bo_0.mp c_99
                    refine lv_aload_n hx hb dX11_garden_74 rfl (lv_at hl 1 rfl) ?_
                    refine x_roVi (As := []) S hK hP hD hZ (fun _ h => h) hA hS hA hl mwX11_good lkX11_146 (ctX11_good l D k z n mthrown 0 mtaped (u_90.2.1 0) (u_90.2.1 1) (u_90.1 0) (u_90.1 1) (u_90.1 2) (u_90.1 3) mmoreMany mlawNow mwetSet moverAll mones mtwos mgone mroundNow msampleFor msampleAll maskWorst moftenAll moftenView moftenOnes (by omega) (by omega) (by omega) (by omega) (by omega)) [0] rfl (by decide) rfl rfl rfl rfl rfl ⟨Nat.le_of_ble_eq_true rfl, Nat.le_of_ble_eq_true rfl, Nat.le_of_ble_eq_true rfl⟩ dX11_garden_75 ⟨Nat.le_of_ble_eq_true rfl, Nat.le_of_ble_eq_true rfl⟩ (fun r_100 H locs hr_100 hP hS => ?_)
                    obtain rfl := hr_100
                    refine lv_if_ne (tgt := 84) hx hb dX11_garden_78 (by decide) (fun c_102 => ?_) (fun c_102 => ?_)
                    · skip
                      have c_102 : (u_90.1 2) = 0 := bo_1.mp c_102
                      exact absurd c_102 c_99
                    · skip
                      have c_102 : ¬ ((u_90.1 2) = 0) := bo_0.mp c_102
                      refine lv_bipush (v := (-4)) hx hb dX11_garden_81 (by decide) ?_
                      exact x_reti S hr hlk hQ hS ((fun i => ([(u_90.1 0), (u_90.1 1), (u_90.1 2), (u_90.1 3)] : List (Int32)).getD i 0), (fun i => ([0, mtaped, u_90.2.1 0, u_90.2.1 1] : List (Nat)).getD i 0), (fun i => ([fworld, (u_90.2.2.1 0)] : List (Nat → Int32)).getD i (fun _ => 0)), (fun i => ([] : List (Nat → Int64)).getD i (fun _ => 0)), (fun i => ([] : List (Int64)).getD i 0)) ⟨(show 0 ≤ 600 by omega), (show mtaped ≤ 600 by omega), (show u_90.2.1 0 ≤ 600 by omega), (show u_90.2.1 1 ≤ 600 by omega), hkworld, hi_93⟩ (x_B hP hD) dX11_garden_83
                  · skip
                    have c_99 : (u_90.1 2) = 0 := bo_1.mp c_99
                    exact absurd c_99 hz_96
        exact lp_62 (600 + 1) (u_13.2.1 1) (u_13.2.1 0) (u_13.1 0) (u_13.1 1) 0 (-1) g_9 _ _ _ (by omega) (by omega) (by omega) (by omega) hW0 hP hD hS (lv_sub hl [0, 1] rfl)
      · skip
        have c_11 : ¬ 99 ≤ j_8 := fun q => c_11 ((ni_le (by decide) rfl (by omega) (by omega)).mpr q)
        refine lv_aload_n hx hb dX11_garden_36 rfl (lv_at hl 1 rfl) ?_
        refine x_get S hK hP 0 rfl cfX11 14 lkX11_31 (by decide) rfl dX11_garden_37 ?_
        refine lv_iload_n hx hb dX11_garden_40 rfl (lv_at hl 0 rfl) ?_
        refine lv_iconst (v := 0) hx hb dX11_garden_41 (by decide) ?_
        refine x_iast (ws' := fun f_103 => [((n 0), .inr (11, [.int mthrown, .ref (n 1), .ref (n 2), .ref (n 3), .ref (n 4), .int 0, .ref (n 5), .int (nI mtaped), .int 0, .int (nI mfrom), .int mtoken, .int mvalue, .int 0, .int (-1), .ref (n 6), .ref (n 7), .ref (n 8), .ref (n 9), .ref (n 10), .ref (n 11), .ref (n 12), .int (nI mmoreMany), .int mlawNow, .int mwetSet, .int moverAll, .ref (n 13), .ref (n 14), .ref (n 15), .int mones, .int mtwos, .int mgone, .ref (n 16), .ref (n 17), .int mroundNow, .ref (n 18), .long msampleFor, .long msampleAll, .ref (n 19), .int maskWorst, .long moftenAll, .long moftenView, .long moftenOnes, .ref (n 20), .ref (n 21), .ref (n 22), .ref (n 23)])), ((n 4), .inl (k 1, 600, .inl ftape)), ((n 6), .inl (k 0, 99, .inl f_103)), ((n 1), .inl (k 0, 99, .inl fworld))]) S hK hP hD hS 2 rfl (vp_in_nI (by omega) (by decide)) (fun _ => rfl) dX11_garden_42 (fun f_103 H locs ef_103 hP hD hS => ?_)
        refine lv_iinc (v := (nI (j_8 + 1))) (lv' := [(1, .int (nI (j_8 + 1))), (0, .ref (n 0))]) hx hb dX11_garden_43 hl (k := 0) rfl (ni_inc _) (by decide) rfl (fun ls hl => ?_)
        refine lv_goto (tgt := 30) hx hb dX11_garden_46 (by decide) ?_
        exact ihj_8 (j_8 + 1) f_103 _ _ _ (by omega) (by omega) (zr_step hz0 ef_103 rfl (by omega)) hP hD hS (lv_sub hl [0, 1] rfl)
  exact lp_10 (99 + 1) 0 ffresh _ _ _ (by omega) (by omega) (fun i hi => absurd hi (by omega)) hP hD hS (lv_sub hl [0, 1] rfl)

set_option maxHeartbeats 4000000 in
set_option maxRecDepth 100000 in
theorem ctX11_feed (l : Launch) (D : va_G) (k : Nat → ClassId) (z : Nat → Nat) (n : Nat → Nat) (mthrown : Int32) (mtaped : Nat) (msize : Nat) (mat : Nat) (mfrom : Nat) (mtoken : Int32) (mvalue : Int32) (mfaultKind : Int32) (mfaultPlace : Int32) (mmoreMany : Nat) (mlawNow : Int32) (mwetSet : Int32) (moverAll : Int32) (mones : Int32) (mtwos : Int32) (mgone : Int32) (mroundNow : Int32) (msampleFor : Int64) (msampleAll : Int64) (maskWorst : Int32) (moftenAll : Int64) (moftenView : Int64) (moftenOnes : Int64) (ftape : Nat → Int32) (ffive : Nat → Int32) (p0 : Int32) (p1 : Int32) (p2 : Int32) (p3 : Int32) (p4 : Int32) (hmtaped : mtaped ≤ 600) (hmsize : msize ≤ 600) (hmat : mat ≤ 600) (hmfrom : mfrom ≤ 600) (hmmoreMany : mmoreMany ≤ 14) : MU l yX11_feed cX11_feed 7 (some .int) 0 D k z [.ref (n 0), .int p0, .int p1, .int p2, .int p3, .int p4] [((n 0), .inr (11, [.int mthrown, .ref (n 1), .ref (n 2), .ref (n 3), .ref (n 4), .int (nI mtaped), .ref (n 5), .int (nI msize), .int (nI mat), .int (nI mfrom), .int mtoken, .int mvalue, .int mfaultKind, .int mfaultPlace, .ref (n 6), .ref (n 7), .ref (n 8), .ref (n 9), .ref (n 10), .ref (n 11), .ref (n 12), .int (nI mmoreMany), .int mlawNow, .int mwetSet, .int moverAll, .ref (n 13), .ref (n 14), .ref (n 15), .int mones, .int mtwos, .int mgone, .ref (n 16), .ref (n 17), .int mroundNow, .ref (n 18), .long msampleFor, .long msampleAll, .ref (n 19), .int maskWorst, .long moftenAll, .long moftenView, .long moftenOnes, .ref (n 20), .ref (n 21), .ref (n 22), .ref (n 23)])), ((n 4), .inl (k 1, 600, .inl ftape)), ((n 5), .inl (k 0, 5, .inl ffive))] 0 0 (Ui D (fun (r : Int32) (u : (Nat → Int32) × (Nat → Nat) × (Nat → Nat → Int32) × (Nat → Nat → Int64) × (Nat → Int64)) => (u.2.1 0 ≤ 600)) (fun u : (Nat → Int32) × (Nat → Nat) × (Nat → Nat → Int32) × (Nat → Nat → Int64) × (Nat → Int64) => [((n 0), .inr (11, [.int mthrown, .ref (n 1), .ref (n 2), .ref (n 3), .ref (n 4), .int (nI (u.2.1 0)), .ref (n 5), .int (nI msize), .int (nI mat), .int (nI mfrom), .int mtoken, .int mvalue, .int mfaultKind, .int mfaultPlace, .ref (n 6), .ref (n 7), .ref (n 8), .ref (n 9), .ref (n 10), .ref (n 11), .ref (n 12), .int (nI mmoreMany), .int mlawNow, .int mwetSet, .int moverAll, .ref (n 13), .ref (n 14), .ref (n 15), .int mones, .int mtwos, .int mgone, .ref (n 16), .ref (n 17), .int mroundNow, .ref (n 18), .long msampleFor, .long msampleAll, .ref (n 19), .int maskWorst, .long moftenAll, .long moftenView, .long moftenOnes, .ref (n 20), .ref (n 21), .ref (n 22), .ref (n 23)])), ((n 4), .inl (k 1, 600, .inl (u.2.2.1 0))), ((n 5), .inl (k 0, 5, .inl (u.2.2.1 1)))])) := by
  refine MU.of (by decide) (Nat.le_of_ble_eq_true rfl) ?_
  intro p e s m below meth c ls A args Q S hr hlk hnm hQ hK hP hD hZ hA hS hl
  have hx := S.1
  have hb := S.2.1
  have hl : lv_has ls 7 [(0, .ref (n 0)), (1, .int p0), (2, .int p1), (3, .int p2), (4, .int p3), (5, .int p4)] := hl
  refine lv_aload_n hx hb dX11_feed_0 rfl (lv_at hl 0 rfl) ?_
  refine x_get S hK hP 0 rfl cfX11 5 lkX11_106 (by decide) rfl dX11_feed_1 ?_
  refine lv_bipush (v := 20) hx hb dX11_feed_4 (by decide) ?_
  refine lv_iadd hx hb dX11_feed_6 ?_
  refine x_is (nI (mtaped + 20)) (ni_add rfl (by decide)) ?_
  refine lv_sipush (v := 600) hx hb dX11_feed_7 (by decide) ?_
  refine lv_icmp_le (tgt := 15) hx hb dX11_feed_10 (by decide) (fun c_1 => ?_) (fun c_1 => ?_)
  · skip
    have c_1 : mtaped + 20 ≤ 600 := (ni_le rfl (by decide) (by omega) (by omega)).mp c_1
    refine lv_aload_n hx hb dX11_feed_15 rfl (lv_at hl 0 rfl) ?_
    refine x_get S hK hP 0 rfl cfX11 6 lkX11_24 (by decide) rfl dX11_feed_16 ?_
    refine lv_iconst (v := 0) hx hb dX11_feed_19 (by decide) ?_
    refine lv_iload_n hx hb dX11_feed_20 rfl (lv_at hl 1 rfl) ?_
    refine x_iast (ws' := fun f_2 => [((n 0), .inr (11, [.int mthrown, .ref (n 1), .ref (n 2), .ref (n 3), .ref (n 4), .int (nI mtaped), .ref (n 5), .int (nI msize), .int (nI mat), .int (nI mfrom), .int mtoken, .int mvalue, .int mfaultKind, .int mfaultPlace, .ref (n 6), .ref (n 7), .ref (n 8), .ref (n 9), .ref (n 10), .ref (n 11), .ref (n 12), .int (nI mmoreMany), .int mlawNow, .int mwetSet, .int moverAll, .ref (n 13), .ref (n 14), .ref (n 15), .int mones, .int mtwos, .int mgone, .ref (n 16), .ref (n 17), .int mroundNow, .ref (n 18), .long msampleFor, .long msampleAll, .ref (n 19), .int maskWorst, .long moftenAll, .long moftenView, .long moftenOnes, .ref (n 20), .ref (n 21), .ref (n 22), .ref (n 23)])), ((n 4), .inl (k 1, 600, .inl ftape)), ((n 5), .inl (k 0, 5, .inl f_2))]) S hK hP hD hS 2 rfl (vp_lit (by decide)) (fun _ => rfl) dX11_feed_21 (fun f_2 H locs ef_2 hP hD hS => ?_)
    refine lv_aload_n hx hb dX11_feed_22 rfl (lv_at hl 0 rfl) ?_
    refine x_get S hK hP 0 rfl cfX11 6 lkX11_24 (by decide) rfl dX11_feed_23 ?_
    refine lv_iconst (v := 1) hx hb dX11_feed_26 (by decide) ?_
    refine lv_iload_n hx hb dX11_feed_27 rfl (lv_at hl 2 rfl) ?_
    refine x_iast (ws' := fun f_3 => [((n 0), .inr (11, [.int mthrown, .ref (n 1), .ref (n 2), .ref (n 3), .ref (n 4), .int (nI mtaped), .ref (n 5), .int (nI msize), .int (nI mat), .int (nI mfrom), .int mtoken, .int mvalue, .int mfaultKind, .int mfaultPlace, .ref (n 6), .ref (n 7), .ref (n 8), .ref (n 9), .ref (n 10), .ref (n 11), .ref (n 12), .int (nI mmoreMany), .int mlawNow, .int mwetSet, .int moverAll, .ref (n 13), .ref (n 14), .ref (n 15), .int mones, .int mtwos, .int mgone, .ref (n 16), .ref (n 17), .int mroundNow, .ref (n 18), .long msampleFor, .long msampleAll, .ref (n 19), .int maskWorst, .long moftenAll, .long moftenView, .long moftenOnes, .ref (n 20), .ref (n 21), .ref (n 22), .ref (n 23)])), ((n 4), .inl (k 1, 600, .inl ftape)), ((n 5), .inl (k 0, 5, .inl f_3))]) S hK hP hD hS 2 rfl (vp_lit (by decide)) (fun _ => rfl) dX11_feed_28 (fun f_3 H locs ef_3 hP hD hS => ?_)
    refine lv_aload_n hx hb dX11_feed_29 rfl (lv_at hl 0 rfl) ?_
    refine x_get S hK hP 0 rfl cfX11 6 lkX11_24 (by decide) rfl dX11_feed_30 ?_
    refine lv_iconst (v := 2) hx hb dX11_feed_33 (by decide) ?_
    refine lv_iload_n hx hb dX11_feed_34 rfl (lv_at hl 3 rfl) ?_
    refine x_iast (ws' := fun f_4 => [((n 0), .inr (11, [.int mthrown, .ref (n 1), .ref (n 2), .ref (n 3), .ref (n 4), .int (nI mtaped), .ref (n 5), .int (nI msize), .int (nI mat), .int (nI mfrom), .int mtoken, .int mvalue, .int mfaultKind, .int mfaultPlace, .ref (n 6), .ref (n 7), .ref (n 8), .ref (n 9), .ref (n 10), .ref (n 11), .ref (n 12), .int (nI mmoreMany), .int mlawNow, .int mwetSet, .int moverAll, .ref (n 13), .ref (n 14), .ref (n 15), .int mones, .int mtwos, .int mgone, .ref (n 16), .ref (n 17), .int mroundNow, .ref (n 18), .long msampleFor, .long msampleAll, .ref (n 19), .int maskWorst, .long moftenAll, .long moftenView, .long moftenOnes, .ref (n 20), .ref (n 21), .ref (n 22), .ref (n 23)])), ((n 4), .inl (k 1, 600, .inl ftape)), ((n 5), .inl (k 0, 5, .inl f_4))]) S hK hP hD hS 2 rfl (vp_lit (by decide)) (fun _ => rfl) dX11_feed_35 (fun f_4 H locs ef_4 hP hD hS => ?_)
    refine lv_aload_n hx hb dX11_feed_36 rfl (lv_at hl 0 rfl) ?_
    refine x_get S hK hP 0 rfl cfX11 6 lkX11_24 (by decide) rfl dX11_feed_37 ?_
    refine lv_iconst (v := 3) hx hb dX11_feed_40 (by decide) ?_
    refine lv_iload hx hb dX11_feed_41 (lv_at hl 4 rfl) ?_
    refine x_iast (ws' := fun f_5 => [((n 0), .inr (11, [.int mthrown, .ref (n 1), .ref (n 2), .ref (n 3), .ref (n 4), .int (nI mtaped), .ref (n 5), .int (nI msize), .int (nI mat), .int (nI mfrom), .int mtoken, .int mvalue, .int mfaultKind, .int mfaultPlace, .ref (n 6), .ref (n 7), .ref (n 8), .ref (n 9), .ref (n 10), .ref (n 11), .ref (n 12), .int (nI mmoreMany), .int mlawNow, .int mwetSet, .int moverAll, .ref (n 13), .ref (n 14), .ref (n 15), .int mones, .int mtwos, .int mgone, .ref (n 16), .ref (n 17), .int mroundNow, .ref (n 18), .long msampleFor, .long msampleAll, .ref (n 19), .int maskWorst, .long moftenAll, .long moftenView, .long moftenOnes, .ref (n 20), .ref (n 21), .ref (n 22), .ref (n 23)])), ((n 4), .inl (k 1, 600, .inl ftape)), ((n 5), .inl (k 0, 5, .inl f_5))]) S hK hP hD hS 2 rfl (vp_lit (by decide)) (fun _ => rfl) dX11_feed_43 (fun f_5 H locs ef_5 hP hD hS => ?_)
    refine lv_aload_n hx hb dX11_feed_44 rfl (lv_at hl 0 rfl) ?_
    refine x_get S hK hP 0 rfl cfX11 6 lkX11_24 (by decide) rfl dX11_feed_45 ?_
    refine lv_iconst (v := 4) hx hb dX11_feed_48 (by decide) ?_
    refine lv_iload hx hb dX11_feed_49 (lv_at hl 5 rfl) ?_
    refine x_iast (ws' := fun f_6 => [((n 0), .inr (11, [.int mthrown, .ref (n 1), .ref (n 2), .ref (n 3), .ref (n 4), .int (nI mtaped), .ref (n 5), .int (nI msize), .int (nI mat), .int (nI mfrom), .int mtoken, .int mvalue, .int mfaultKind, .int mfaultPlace, .ref (n 6), .ref (n 7), .ref (n 8), .ref (n 9), .ref (n 10), .ref (n 11), .ref (n 12), .int (nI mmoreMany), .int mlawNow, .int mwetSet, .int moverAll, .ref (n 13), .ref (n 14), .ref (n 15), .int mones, .int mtwos, .int mgone, .ref (n 16), .ref (n 17), .int mroundNow, .ref (n 18), .long msampleFor, .long msampleAll, .ref (n 19), .int maskWorst, .long moftenAll, .long moftenView, .long moftenOnes, .ref (n 20), .ref (n 21), .ref (n 22), .ref (n 23)])), ((n 4), .inl (k 1, 600, .inl ftape)), ((n 5), .inl (k 0, 5, .inl f_6))]) S hK hP hD hS 2 rfl (vp_lit (by decide)) (fun _ => rfl) dX11_feed_51 (fun f_6 H locs ef_6 hP hD hS => ?_)
    refine lv_iconst (v := 0) hx hb dX11_feed_52 (by decide) ?_
    refine lv_istore (lv' := [(6, .int 0), (0, .ref (n 0)), (1, .int p0), (2, .int p1), (3, .int p2), (4, .int p3), (5, .int p4)]) hx hb dX11_feed_53 hl (by decide) rfl (fun ls hl => ?_)
    have lp_25 : ∀ (nn j_23 : Nat) (g_24 : Nat → Int32) (H : Heap) (locs : List Loc) (ls : Array Slot), j_23 ≤ 20 → 20 - j_23 < nn → va_P D vwCl [((n 0), .inr (11, [.int mthrown, .ref (n 1), .ref (n 2), .ref (n 3), .ref (n 4), .int (nI mtaped), .ref (n 5), .int (nI msize), .int (nI mat), .int (nI mfrom), .int mtoken, .int mvalue, .int mfaultKind, .int mfaultPlace, .ref (n 6), .ref (n 7), .ref (n 8), .ref (n 9), .ref (n 10), .ref (n 11), .ref (n 12), .int (nI mmoreMany), .int mlawNow, .int mwetSet, .int moverAll, .ref (n 13), .ref (n 14), .ref (n 15), .int mones, .int mtwos, .int mgone, .ref (n 16), .ref (n 17), .int mroundNow, .ref (n 18), .long msampleFor, .long msampleAll, .ref (n 19), .int maskWorst, .long moftenAll, .long moftenView, .long moftenOnes, .ref (n 20), .ref (n 21), .ref (n 22), .ref (n 23)])), ((n 4), .inl (k 1, 600, .inl g_24)), ((n 5), .inl (k 0, 5, .inl f_6))] H → va_D A [((n 0), .inr (11, [.int mthrown, .ref (n 1), .ref (n 2), .ref (n 3), .ref (n 4), .int (nI mtaped), .ref (n 5), .int (nI msize), .int (nI mat), .int (nI mfrom), .int mtoken, .int mvalue, .int mfaultKind, .int mfaultPlace, .ref (n 6), .ref (n 7), .ref (n 8), .ref (n 9), .ref (n 10), .ref (n 11), .ref (n 12), .int (nI mmoreMany), .int mlawNow, .int mwetSet, .int moverAll, .ref (n 13), .ref (n 14), .ref (n 15), .int mones, .int mtwos, .int mgone, .ref (n 16), .ref (n 17), .int mroundNow, .ref (n 18), .long msampleFor, .long msampleAll, .ref (n 19), .int maskWorst, .long moftenAll, .long moftenView, .long moftenOnes, .ref (n 20), .ref (n 21), .ref (n 22), .ref (n 23)])), ((n 4), .inl (k 1, 600, .inl g_24)), ((n 5), .inl (k 0, 5, .inl f_6))] → va_S A s.heap H locs → lv_has ls 7 [(6, .int (nI j_23)), (0, .ref (n 0)), (1, .int p0), (2, .int p1), (3, .int p2), (4, .int p3), (5, .int p4)] → W p l e (Rm 0 0 0) s m args below meth c H locs 0 0 Q (F0 m 55 ls []) := by
      intro nn
      induction nn with
      | zero => intro j_23 g_24 H locs ls hjj_23 hnj_23; exact absurd hnj_23 (by omega)
      | succ nn ihj_23 =>
        intro j_23 g_24 H locs ls hjj_23 hnj_23 hP hD hS hl
        refine lv_iload hx hb dX11_feed_55 (lv_at hl 0 rfl) ?_
        refine lv_bipush (v := 20) hx hb dX11_feed_57 (by decide) ?_
        refine lv_icmp_ge (tgt := 101) hx hb dX11_feed_59 (by decide) (fun c_26 => ?_) (fun c_26 => ?_)
        · skip
          have c_26 : 20 ≤ j_23 := (ni_le (by decide) rfl (by omega) (by omega)).mp c_26
          refine lv_aload_n hx hb dX11_feed_101 rfl (lv_at hl 1 rfl) ?_
          refine lv_dup hx hb dX11_feed_102 rfl ?_
          refine x_get S hK hP 0 rfl cfX11 5 lkX11_106 (by decide) rfl dX11_feed_103 ?_
          refine lv_bipush (v := 20) hx hb dX11_feed_106 (by decide) ?_
          refine lv_iadd hx hb dX11_feed_108 ?_
          refine x_is (nI (mtaped + 20)) (ni_add rfl (by decide)) ?_
          refine x_put (ws' := [((n 0), .inr (11, [.int mthrown, .ref (n 1), .ref (n 2), .ref (n 3), .ref (n 4), .int (nI (mtaped + 20)), .ref (n 5), .int (nI msize), .int (nI mat), .int (nI mfrom), .int mtoken, .int mvalue, .int mfaultKind, .int mfaultPlace, .ref (n 6), .ref (n 7), .ref (n 8), .ref (n 9), .ref (n 10), .ref (n 11), .ref (n 12), .int (nI mmoreMany), .int mlawNow, .int mwetSet, .int moverAll, .ref (n 13), .ref (n 14), .ref (n 15), .int mones, .int mtwos, .int mgone, .ref (n 16), .ref (n 17), .int mroundNow, .ref (n 18), .long msampleFor, .long msampleAll, .ref (n 19), .int maskWorst, .long moftenAll, .long moftenView, .long moftenOnes, .ref (n 20), .ref (n 21), .ref (n 22), .ref (n 23)])), ((n 4), .inl (k 1, 600, .inl g_24)), ((n 5), .inl (k 0, 5, .inl f_6))]) S hK hP hD hS 0 rfl cfX11 5 lkX11_106 (by decide) rfl rfl rfl (Nat.le_of_ble_eq_true rfl) rfl dX11_feed_109 (fun H locs hP hD hS => ?_)
          refine lv_aload_n hx hb dX11_feed_112 rfl (lv_at hl 1 rfl) ?_
          refine x_get S hK hP 0 rfl cfX11 5 lkX11_106 (by decide) rfl dX11_feed_113 ?_
          exact x_reti S hr hlk hQ hS ((fun i => ([] : List (Int32)).getD i 0), (fun i => ([mtaped + 20] : List (Nat)).getD i 0), (fun i => ([g_24, f_6] : List (Nat → Int32)).getD i (fun _ => 0)), (fun i => ([] : List (Nat → Int64)).getD i (fun _ => 0)), (fun i => ([] : List (Int64)).getD i 0)) (show mtaped + 20 ≤ 600 by omega) (x_B hP hD) dX11_feed_116
        · skip
          have c_26 : ¬ 20 ≤ j_23 := fun q => c_26 ((ni_le (by decide) rfl (by omega) (by omega)).mpr q)
          refine lv_aload_n hx hb dX11_feed_62 rfl (lv_at hl 1 rfl) ?_
          refine x_get S hK hP 0 rfl cfX11 4 lkX11_20 (by decide) rfl dX11_feed_63 ?_
          refine lv_aload_n hx hb dX11_feed_66 rfl (lv_at hl 1 rfl) ?_
          refine x_get S hK hP 0 rfl cfX11 5 lkX11_106 (by decide) rfl dX11_feed_67 ?_
          refine lv_iload hx hb dX11_feed_70 (lv_at hl 0 rfl) ?_
          refine lv_iadd hx hb dX11_feed_72 ?_
          refine x_is (nI (mtaped + j_23)) (ni_add rfl rfl) ?_
          refine lv_aload_n hx hb dX11_feed_73 rfl (lv_at hl 1 rfl) ?_
          refine x_get S hK hP 0 rfl cfX11 6 lkX11_24 (by decide) rfl dX11_feed_74 ?_
          refine lv_iload hx hb dX11_feed_77 (lv_at hl 0 rfl) ?_
          refine lv_iconst (v := 4) hx hb dX11_feed_79 (by decide) ?_
          refine lv_idiv hx hb dX11_feed_80 (by decide) ?_
          refine x_is (nI (j_23 / 4)) (ni_div rfl (by decide) (by omega) (by decide) (by decide)) ?_
          refine x_iald S hK hP 2 rfl (vp_in_nI (by omega) (by decide)) dX11_feed_81 ?_
          refine lv_topi (fun v_27 ev_27 => ?_)
          refine lv_bipush (v := 24) hx hb dX11_feed_82 (by decide) ?_
          refine lv_bipush (v := 8) hx hb dX11_feed_84 (by decide) ?_
          refine lv_iload hx hb dX11_feed_86 (lv_at hl 0 rfl) ?_
          refine lv_iconst (v := 4) hx hb dX11_feed_88 (by decide) ?_
          refine lv_irem hx hb dX11_feed_89 (by decide) ?_
          refine x_is (nI (j_23 % 4)) (ni_rem rfl (by decide) (by omega) (by decide) (by decide)) ?_
          refine lv_imul hx hb dX11_feed_90 ?_
          refine x_is (nI (8 * (j_23 % 4))) (ni_mul (by decide) rfl) ?_
          refine lv_isub hx hb dX11_feed_91 ?_
          refine lv_topi (fun v_28 ev_28 => ?_)
          refine lv_ishr hx hb dX11_feed_92 ?_
          refine lv_topi (fun v_29 ev_29 => ?_)
          refine lv_i2b hx hb dX11_feed_93 rfl ?_
          refine lv_topi (fun v_30 ev_30 => ?_)
          refine x_bast (ws' := fun f_31 => [((n 0), .inr (11, [.int mthrown, .ref (n 1), .ref (n 2), .ref (n 3), .ref (n 4), .int (nI mtaped), .ref (n 5), .int (nI msize), .int (nI mat), .int (nI mfrom), .int mtoken, .int mvalue, .int mfaultKind, .int mfaultPlace, .ref (n 6), .ref (n 7), .ref (n 8), .ref (n 9), .ref (n 10), .ref (n 11), .ref (n 12), .int (nI mmoreMany), .int mlawNow, .int mwetSet, .int moverAll, .ref (n 13), .ref (n 14), .ref (n 15), .int mones, .int mtwos, .int mgone, .ref (n 16), .ref (n 17), .int mroundNow, .ref (n 18), .long msampleFor, .long msampleAll, .ref (n 19), .int maskWorst, .long moftenAll, .long moftenView, .long moftenOnes, .ref (n 20), .ref (n 21), .ref (n 22), .ref (n 23)])), ((n 4), .inl (k 1, 600, .inl f_31)), ((n 5), .inl (k 0, 5, .inl f_6))]) S hK hP hD hS 1 rfl (vp_in_nI (by omega) (by decide)) (fun _ => rfl) dX11_feed_94 (fun f_31 H locs ef_31 hP hD hS => ?_)
          refine lv_iinc (v := (nI (j_23 + 1))) (lv' := [(6, .int (nI (j_23 + 1))), (0, .ref (n 0)), (1, .int p0), (2, .int p1), (3, .int p2), (4, .int p3), (5, .int p4)]) hx hb dX11_feed_95 hl (k := 0) rfl (ni_inc _) (by decide) rfl (fun ls hl => ?_)
          refine lv_goto (tgt := 55) hx hb dX11_feed_98 (by decide) ?_
          exact ihj_23 (j_23 + 1) f_31 _ _ _ (by omega) (by omega) hP hD hS (lv_sub hl [0, 1, 2, 3, 4, 5, 6] rfl)
    exact lp_25 (20 + 1) 0 ftape _ _ _ (by omega) (by omega) hP hD hS (lv_sub hl [0, 1, 2, 3, 4, 5, 6] rfl)
  · skip
    have c_1 : ¬ mtaped + 20 ≤ 600 := fun q => c_1 ((ni_le rfl (by decide) (by omega) (by omega)).mpr q)
    refine lv_iconst (v := (-1)) hx hb dX11_feed_13 (by decide) ?_
    exact x_reti S hr hlk hQ hS ((fun i => ([] : List (Int32)).getD i 0), (fun i => ([mtaped] : List (Nat)).getD i 0), (fun i => ([ftape, ffive] : List (Nat → Int32)).getD i (fun _ => 0)), (fun i => ([] : List (Nat → Int64)).getD i (fun _ => 0)), (fun i => ([] : List (Int64)).getD i 0)) (show mtaped ≤ 600 by omega) (x_B hP hD) dX11_feed_14

set_option maxHeartbeats 4000000 in
set_option maxRecDepth 100000 in
theorem ctX11_end (l : Launch) (D : va_G) (k : Nat → ClassId) (z : Nat → Nat) (n : Nat → Nat) (mthrown : Int32) (mtaped : Nat) (msize : Nat) (mat : Nat) (mfrom : Nat) (mtoken : Int32) (mvalue : Int32) (mfaultKind : Int32) (mfaultPlace : Int32) (mmoreMany : Nat) (mlawNow : Int32) (mwetSet : Int32) (moverAll : Int32) (mones : Int32) (mtwos : Int32) (mgone : Int32) (mroundNow : Int32) (msampleFor : Int64) (msampleAll : Int64) (maskWorst : Int32) (moftenAll : Int64) (moftenView : Int64) (moftenOnes : Int64) (p0 : Int32) (hmtaped : mtaped ≤ 600) (hmsize : msize ≤ 600) (hmat : mat ≤ 600) (hmfrom : mfrom ≤ 600) (hmmoreMany : mmoreMany ≤ 14) : MU l yX11_end cX11_end 2 (some .int) 1 D k z [.ref (n 0), .int p0] [((n 0), .inr (11, [.int mthrown, .ref (n 1), .ref (n 2), .ref (n 3), .ref (n 4), .int (nI mtaped), .ref (n 5), .int (nI msize), .int (nI mat), .int (nI mfrom), .int mtoken, .int mvalue, .int mfaultKind, .int mfaultPlace, .ref (n 6), .ref (n 7), .ref (n 8), .ref (n 9), .ref (n 10), .ref (n 11), .ref (n 12), .int (nI mmoreMany), .int mlawNow, .int mwetSet, .int moverAll, .ref (n 13), .ref (n 14), .ref (n 15), .int mones, .int mtwos, .int mgone, .ref (n 16), .ref (n 17), .int mroundNow, .ref (n 18), .long msampleFor, .long msampleAll, .ref (n 19), .int maskWorst, .long moftenAll, .long moftenView, .long moftenOnes, .ref (n 20), .ref (n 21), .ref (n 22), .ref (n 23)]))] 0 0 (Ui D (fun (r : Int32) (u : (Nat → Int32) × (Nat → Nat) × (Nat → Nat → Int32) × (Nat → Nat → Int64) × (Nat → Int64)) => (u.2.1 0 ≤ 600)) (fun u : (Nat → Int32) × (Nat → Nat) × (Nat → Nat → Int32) × (Nat → Nat → Int64) × (Nat → Int64) => [((n 0), .inr (11, [.int mthrown, .ref (n 1), .ref (n 2), .ref (n 3), .ref (n 4), .int (nI (u.2.1 0)), .ref (n 5), .int (nI msize), .int (nI mat), .int (nI mfrom), .int mtoken, .int mvalue, .int mfaultKind, .int mfaultPlace, .ref (n 6), .ref (n 7), .ref (n 8), .ref (n 9), .ref (n 10), .ref (n 11), .ref (n 12), .int (nI mmoreMany), .int mlawNow, .int mwetSet, .int moverAll, .ref (n 13), .ref (n 14), .ref (n 15), .int mones, .int mtwos, .int mgone, .ref (n 16), .ref (n 17), .int mroundNow, .ref (n 18), .long msampleFor, .long msampleAll, .ref (n 19), .int maskWorst, .long moftenAll, .long moftenView, .long moftenOnes, .ref (n 20), .ref (n 21), .ref (n 22), .ref (n 23)]))])) := by
  refine MU.of (by decide) (Nat.le_of_ble_eq_true rfl) ?_
  intro p e s m below meth c ls A args Q S hr hlk hnm hQ hK hP hD hZ hA hS hl
  have hx := S.1
  have hb := S.2.1
  have hl : lv_has ls 2 [(0, .ref (n 0)), (1, .int p0)] := hl
  refine lv_iload_n hx hb dX11_end_0 rfl (lv_at hl 1 rfl) ?_
  refine lv_i2l (v := p0.toInt64) hx hb dX11_end_1 rfl ?_
  refine lv_lconst (v := 0) hx hb dX11_end_2 (by decide) ?_
  refine lv_aload_n hx hb dX11_end_3 rfl (lv_at hl 0 rfl) ?_
  refine x_get S hK hP 0 rfl cfX11 5 lkX11_106 (by decide) rfl dX11_end_4 ?_
  refine lv_i2l (v := (nI mtaped).toInt64) hx hb dX11_end_7 rfl ?_
  refine x_roSi (As := [.long p0.toInt64, .long 0, .long (nI mtaped).toInt64]) S hK hP hD hZ (fun _ h => h) hA hS hA hl mwX11_in lkX11_91 (ctX11_in l D k z p0.toInt64 0 (nI mtaped).toInt64 ) [] rfl (by decide) rfl rfl ⟨Nat.le_of_ble_eq_true rfl, Nat.le_of_ble_eq_true rfl, Nat.le_of_ble_eq_true rfl⟩ dX11_end_8 ⟨Nat.le_of_ble_eq_true rfl, Nat.le_of_ble_eq_true rfl⟩ (fun r_1 H locs hr_1 hP hS => ?_)
  obtain rfl := hr_1
  refine lv_if_ne (tgt := 16) hx hb dX11_end_11 (by decide) (fun c_3 => ?_) (fun c_3 => ?_)
  · skip
    have c_3 : 0 ≤ p0.toInt64 ∧ p0.toInt64 ≤ (nI mtaped).toInt64 := bo_1.mp c_3
    obtain ⟨kn, hkn, ekn⟩ : ∃ kn : Nat, kn < mtaped + 1 ∧ p0 = nI kn := nat64g c_3 (by decide) (nIl_toInt (by omega))
    have hl : lv_has ls 2 [(0, .ref (n 0)), (1, .int (nI kn))] := by rw [ekn] at hl; exact hl
    refine lv_aload_n hx hb dX11_end_16 rfl (lv_at hl 0 rfl) ?_
    refine lv_iload_n hx hb dX11_end_17 rfl (lv_at hl 1 rfl) ?_
    refine x_put (ws' := [((n 0), .inr (11, [.int mthrown, .ref (n 1), .ref (n 2), .ref (n 3), .ref (n 4), .int (nI kn), .ref (n 5), .int (nI msize), .int (nI mat), .int (nI mfrom), .int mtoken, .int mvalue, .int mfaultKind, .int mfaultPlace, .ref (n 6), .ref (n 7), .ref (n 8), .ref (n 9), .ref (n 10), .ref (n 11), .ref (n 12), .int (nI mmoreMany), .int mlawNow, .int mwetSet, .int moverAll, .ref (n 13), .ref (n 14), .ref (n 15), .int mones, .int mtwos, .int mgone, .ref (n 16), .ref (n 17), .int mroundNow, .ref (n 18), .long msampleFor, .long msampleAll, .ref (n 19), .int maskWorst, .long moftenAll, .long moftenView, .long moftenOnes, .ref (n 20), .ref (n 21), .ref (n 22), .ref (n 23)]))]) S hK hP hD hS 0 rfl cfX11 5 lkX11_106 (by decide) rfl rfl rfl (Nat.le_of_ble_eq_true rfl) rfl dX11_end_18 (fun H locs hP hD hS => ?_)
    refine lv_iload_n hx hb dX11_end_21 rfl (lv_at hl 1 rfl) ?_
    exact x_reti S hr hlk hQ hS ((fun i => ([] : List (Int32)).getD i 0), (fun i => ([kn] : List (Nat)).getD i 0), (fun i => ([] : List (Nat → Int32)).getD i (fun _ => 0)), (fun i => ([] : List (Nat → Int64)).getD i (fun _ => 0)), (fun i => ([] : List (Int64)).getD i 0)) (show kn ≤ 600 by omega) (x_B hP hD) dX11_end_22
  · skip
    have c_3 : ¬ (0 ≤ p0.toInt64 ∧ p0.toInt64 ≤ (nI mtaped).toInt64) := bo_0.mp c_3
    refine lv_iconst (v := (-1)) hx hb dX11_end_14 (by decide) ?_
    exact x_reti S hr hlk hQ hS ((fun i => ([] : List (Int32)).getD i 0), (fun i => ([mtaped] : List (Nat)).getD i 0), (fun i => ([] : List (Nat → Int32)).getD i (fun _ => 0)), (fun i => ([] : List (Nat → Int64)).getD i (fun _ => 0)), (fun i => ([] : List (Int64)).getD i 0)) (show mtaped ≤ 600 by omega) (x_B hP hD) dX11_end_15

set_option maxHeartbeats 4000000 in
set_option maxRecDepth 100000 in
theorem ctX11_fault (l : Launch) (D : va_G) (k : Nat → ClassId) (z : Nat → Nat) (n : Nat → Nat) (mthrown : Int32) (mtaped : Nat) (msize : Nat) (mat : Nat) (mfrom : Nat) (mtoken : Int32) (mvalue : Int32) (mfaultKind : Int32) (mfaultPlace : Int32) (mmoreMany : Nat) (mlawNow : Int32) (mwetSet : Int32) (moverAll : Int32) (mones : Int32) (mtwos : Int32) (mgone : Int32) (mroundNow : Int32) (msampleFor : Int64) (msampleAll : Int64) (maskWorst : Int32) (moftenAll : Int64) (moftenView : Int64) (moftenOnes : Int64) (p0 : Int32) (hmtaped : mtaped ≤ 600) (hmsize : msize ≤ 600) (hmat : mat ≤ 600) (hmfrom : mfrom ≤ 600) (hmmoreMany : mmoreMany ≤ 14) : RO l yX11_fault cX11_fault 2 (some .int) 0 D k z [.ref (n 0), .int p0] [((n 0), .inr (11, [.int mthrown, .ref (n 1), .ref (n 2), .ref (n 3), .ref (n 4), .int (nI mtaped), .ref (n 5), .int (nI msize), .int (nI mat), .int (nI mfrom), .int mtoken, .int mvalue, .int mfaultKind, .int mfaultPlace, .ref (n 6), .ref (n 7), .ref (n 8), .ref (n 9), .ref (n 10), .ref (n 11), .ref (n 12), .int (nI mmoreMany), .int mlawNow, .int mwetSet, .int moverAll, .ref (n 13), .ref (n 14), .ref (n 15), .int mones, .int mtwos, .int mgone, .ref (n 16), .ref (n 17), .int mroundNow, .ref (n 18), .long msampleFor, .long msampleAll, .ref (n 19), .int maskWorst, .long moftenAll, .long moftenView, .long moftenOnes, .ref (n 20), .ref (n 21), .ref (n 22), .ref (n 23)]))] (Qi (fun r : Int32 => True)) := by
  refine RO.of (by decide) (Nat.le_of_ble_eq_true rfl) ?_
  intro p e s m below meth c ls A B args Q S hr hlk hQ hK hP hDW hZ hAB hBA hA hS hl
  have hx := S.1
  have hb := S.2.1
  have hl : lv_has ls 2 [(0, .ref (n 0)), (1, .int p0)] := hl
  refine lv_iload_n hx hb dX11_fault_0 rfl (lv_at hl 1 rfl) ?_
  refine lv_if_ne (tgt := 11) hx hb dX11_fault_1 (by decide) (fun c_1 => ?_) (fun c_1 => ?_)
  · skip
    refine lv_iload_n hx hb dX11_fault_11 rfl (lv_at hl 1 rfl) ?_
    refine lv_iconst (v := 1) hx hb dX11_fault_12 (by decide) ?_
    refine lv_icmp_ne (tgt := 23) hx hb dX11_fault_13 (by decide) (fun c_2 => ?_) (fun c_2 => ?_)
    · skip
      refine lv_iconst (v := (-1)) hx hb dX11_fault_23 (by decide) ?_
      exact x_reti S hr hlk hQ hS () trivial x_T dX11_fault_24
    · skip
      refine lv_aload_n hx hb dX11_fault_16 rfl (lv_at hl 0 rfl) ?_
      refine x_get S hK hP 0 rfl cfX11 13 lkX11_27 (by decide) rfl dX11_fault_17 ?_
      refine lv_goto (tgt := 24) hx hb dX11_fault_20 (by decide) ?_
      exact x_reti S hr hlk hQ hS () trivial x_T dX11_fault_24
  · skip
    refine lv_aload_n hx hb dX11_fault_4 rfl (lv_at hl 0 rfl) ?_
    refine x_get S hK hP 0 rfl cfX11 12 lkX11_143 (by decide) rfl dX11_fault_5 ?_
    refine lv_goto (tgt := 24) hx hb dX11_fault_8 (by decide) ?_
    exact x_reti S hr hlk hQ hS () trivial x_T dX11_fault_24

