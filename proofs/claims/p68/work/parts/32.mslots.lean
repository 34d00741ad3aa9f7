theorem dX11_image_0 : decode cX11_image 0 = .ok (.iload_n 1, 1) := by decide +kernel
theorem dX11_image_1 : decode cX11_image 1 = .ok (.i2l, 1) := by decide +kernel
theorem dX11_image_2 : decode cX11_image 2 = .ok (.lconst 0, 1) := by decide +kernel
theorem dX11_image_3 : decode cX11_image 3 = .ok (.ldc2_w 89, 3) := by decide +kernel
theorem dX11_image_6 : decode cX11_image 6 = .ok (.invokestatic 91, 3) := by decide +kernel
theorem dX11_image_9 : decode cX11_image 9 = .ok (.ifCond .ne 6, 3) := by decide +kernel
theorem dX11_image_12 : decode cX11_image 12 = .ok (.bipush (-2), 2) := by decide +kernel
theorem dX11_image_14 : decode cX11_image 14 = .ok (.ireturn, 1) := by decide +kernel
theorem dX11_image_15 : decode cX11_image 15 = .ok (.iconst 0, 1) := by decide +kernel
theorem dX11_image_16 : decode cX11_image 16 = .ok (.istore_n 2, 1) := by decide +kernel
theorem dX11_image_17 : decode cX11_image 17 = .ok (.iload_n 2, 1) := by decide +kernel
theorem dX11_image_18 : decode cX11_image 18 = .ok (.bipush 99, 2) := by decide +kernel
theorem dX11_image_20 : decode cX11_image 20 = .ok (.if_icmp .ge 26, 3) := by decide +kernel
theorem dX11_image_23 : decode cX11_image 23 = .ok (.aload_n 0, 1) := by decide +kernel
theorem dX11_image_24 : decode cX11_image 24 = .ok (.getfield 13, 3) := by decide +kernel
theorem dX11_image_27 : decode cX11_image 27 = .ok (.bipush 99, 2) := by decide +kernel
theorem dX11_image_29 : decode cX11_image 29 = .ok (.iload_n 1, 1) := by decide +kernel
theorem dX11_image_30 : decode cX11_image 30 = .ok (.imul, 1) := by decide +kernel
theorem dX11_image_31 : decode cX11_image 31 = .ok (.iload_n 2, 1) := by decide +kernel
theorem dX11_image_32 : decode cX11_image 32 = .ok (.iadd, 1) := by decide +kernel
theorem dX11_image_33 : decode cX11_image 33 = .ok (.aload_n 0, 1) := by decide +kernel
theorem dX11_image_34 : decode cX11_image 34 = .ok (.getfield 9, 3) := by decide +kernel
theorem dX11_image_37 : decode cX11_image 37 = .ok (.iload_n 2, 1) := by decide +kernel
theorem dX11_image_38 : decode cX11_image 38 = .ok (.iaload, 1) := by decide +kernel
theorem dX11_image_39 : decode cX11_image 39 = .ok (.iastore, 1) := by decide +kernel
theorem dX11_image_40 : decode cX11_image 40 = .ok (.iinc 2 1, 3) := by decide +kernel
theorem dX11_image_43 : decode cX11_image 43 = .ok (.goto (-26), 3) := by decide +kernel
theorem dX11_image_46 : decode cX11_image 46 = .ok (.aload_n 0, 1) := by decide +kernel
theorem dX11_image_47 : decode cX11_image 47 = .ok (.getfield 16, 3) := by decide +kernel
theorem dX11_image_50 : decode cX11_image 50 = .ok (.iload_n 1, 1) := by decide +kernel
theorem dX11_image_51 : decode cX11_image 51 = .ok (.iconst 1, 1) := by decide +kernel
theorem dX11_image_52 : decode cX11_image 52 = .ok (.bastore, 1) := by decide +kernel
theorem dX11_image_53 : decode cX11_image 53 = .ok (.iconst 0, 1) := by decide +kernel
theorem dX11_image_54 : decode cX11_image 54 = .ok (.ireturn, 1) := by decide +kernel
theorem dX11_back_0 : decode cX11_back 0 = .ok (.iload_n 1, 1) := by decide +kernel
theorem dX11_back_1 : decode cX11_back 1 = .ok (.i2l, 1) := by decide +kernel
theorem dX11_back_2 : decode cX11_back 2 = .ok (.lconst 0, 1) := by decide +kernel
theorem dX11_back_3 : decode cX11_back 3 = .ok (.ldc2_w 89, 3) := by decide +kernel
theorem dX11_back_6 : decode cX11_back 6 = .ok (.invokestatic 91, 3) := by decide +kernel
theorem dX11_back_9 : decode cX11_back 9 = .ok (.ifCond .ne 6, 3) := by decide +kernel
theorem dX11_back_12 : decode cX11_back 12 = .ok (.bipush (-2), 2) := by decide +kernel
theorem dX11_back_14 : decode cX11_back 14 = .ok (.ireturn, 1) := by decide +kernel
theorem dX11_back_15 : decode cX11_back 15 = .ok (.aload_n 0, 1) := by decide +kernel
theorem dX11_back_16 : decode cX11_back 16 = .ok (.getfield 16, 3) := by decide +kernel
theorem dX11_back_19 : decode cX11_back 19 = .ok (.iload_n 1, 1) := by decide +kernel
theorem dX11_back_20 : decode cX11_back 20 = .ok (.baload, 1) := by decide +kernel
theorem dX11_back_21 : decode cX11_back 21 = .ok (.ifCond .ne 6, 3) := by decide +kernel
theorem dX11_back_24 : decode cX11_back 24 = .ok (.bipush (-6), 2) := by decide +kernel
theorem dX11_back_26 : decode cX11_back 26 = .ok (.ireturn, 1) := by decide +kernel
theorem dX11_back_27 : decode cX11_back 27 = .ok (.iconst 0, 1) := by decide +kernel
theorem dX11_back_28 : decode cX11_back 28 = .ok (.istore_n 2, 1) := by decide +kernel
theorem dX11_back_29 : decode cX11_back 29 = .ok (.iload_n 2, 1) := by decide +kernel
theorem dX11_back_30 : decode cX11_back 30 = .ok (.bipush 99, 2) := by decide +kernel
theorem dX11_back_32 : decode cX11_back 32 = .ok (.if_icmp .ge 26, 3) := by decide +kernel
theorem dX11_back_35 : decode cX11_back 35 = .ok (.aload_n 0, 1) := by decide +kernel
theorem dX11_back_36 : decode cX11_back 36 = .ok (.getfield 9, 3) := by decide +kernel
theorem dX11_back_39 : decode cX11_back 39 = .ok (.iload_n 2, 1) := by decide +kernel
theorem dX11_back_40 : decode cX11_back 40 = .ok (.aload_n 0, 1) := by decide +kernel
theorem dX11_back_41 : decode cX11_back 41 = .ok (.getfield 13, 3) := by decide +kernel
theorem dX11_back_44 : decode cX11_back 44 = .ok (.bipush 99, 2) := by decide +kernel
theorem dX11_back_46 : decode cX11_back 46 = .ok (.iload_n 1, 1) := by decide +kernel
theorem dX11_back_47 : decode cX11_back 47 = .ok (.imul, 1) := by decide +kernel
theorem dX11_back_48 : decode cX11_back 48 = .ok (.iload_n 2, 1) := by decide +kernel
theorem dX11_back_49 : decode cX11_back 49 = .ok (.iadd, 1) := by decide +kernel
theorem dX11_back_50 : decode cX11_back 50 = .ok (.iaload, 1) := by decide +kernel
theorem dX11_back_51 : decode cX11_back 51 = .ok (.iastore, 1) := by decide +kernel
theorem dX11_back_52 : decode cX11_back 52 = .ok (.iinc 2 1, 3) := by decide +kernel
theorem dX11_back_55 : decode cX11_back 55 = .ok (.goto (-26), 3) := by decide +kernel
theorem dX11_back_58 : decode cX11_back 58 = .ok (.iconst 0, 1) := by decide +kernel
theorem dX11_back_59 : decode cX11_back 59 = .ok (.ireturn, 1) := by decide +kernel
theorem dX11_row_0 : decode cX11_row 0 = .ok (.iload_n 1, 1) := by decide +kernel
theorem dX11_row_1 : decode cX11_row 1 = .ok (.invokestatic 425, 3) := by decide +kernel
theorem dX11_row_4 : decode cX11_row 4 = .ok (.ifCond .eq 21, 3) := by decide +kernel
theorem dX11_row_7 : decode cX11_row 7 = .ok (.iload_n 2, 1) := by decide +kernel
theorem dX11_row_8 : decode cX11_row 8 = .ok (.i2l, 1) := by decide +kernel
theorem dX11_row_9 : decode cX11_row 9 = .ok (.lconst 0, 1) := by decide +kernel
theorem dX11_row_10 : decode cX11_row 10 = .ok (.ldc2_w 241, 3) := by decide +kernel
theorem dX11_row_13 : decode cX11_row 13 = .ok (.invokestatic 91, 3) := by decide +kernel
theorem dX11_row_16 : decode cX11_row 16 = .ok (.ifCond .eq 9, 3) := by decide +kernel
theorem dX11_row_19 : decode cX11_row 19 = .ok (.iload_n 3, 1) := by decide +kernel
theorem dX11_row_20 : decode cX11_row 20 = .ok (.bipush 60, 2) := by decide +kernel
theorem dX11_row_22 : decode cX11_row 22 = .ok (.if_icmp .le 6, 3) := by decide +kernel
theorem dX11_row_25 : decode cX11_row 25 = .ok (.bipush (-2), 2) := by decide +kernel
theorem dX11_row_27 : decode cX11_row 27 = .ok (.ireturn, 1) := by decide +kernel
theorem dX11_row_28 : decode cX11_row 28 = .ok (.iload_n 3, 1) := by decide +kernel
theorem dX11_row_29 : decode cX11_row 29 = .ok (.ifCond .ge 6, 3) := by decide +kernel
theorem dX11_row_32 : decode cX11_row 32 = .ok (.bipush (-3), 2) := by decide +kernel
theorem dX11_row_34 : decode cX11_row 34 = .ok (.ireturn, 1) := by decide +kernel
theorem dX11_row_35 : decode cX11_row 35 = .ok (.aload_n 0, 1) := by decide +kernel
theorem dX11_row_36 : decode cX11_row 36 = .ok (.getfield 73, 3) := by decide +kernel
theorem dX11_row_39 : decode cX11_row 39 = .ok (.iload_n 1, 1) := by decide +kernel
theorem dX11_row_40 : decode cX11_row 40 = .ok (.iload_n 3, 1) := by decide +kernel
theorem dX11_row_41 : decode cX11_row 41 = .ok (.iastore, 1) := by decide +kernel
theorem dX11_row_42 : decode cX11_row 42 = .ok (.aload_n 0, 1) := by decide +kernel
theorem dX11_row_43 : decode cX11_row 43 = .ok (.getfield 76, 3) := by decide +kernel
theorem dX11_row_46 : decode cX11_row 46 = .ok (.iload_n 1, 1) := by decide +kernel
theorem dX11_row_47 : decode cX11_row 47 = .ok (.iload_n 2, 1) := by decide +kernel
theorem dX11_row_48 : decode cX11_row 48 = .ok (.iastore, 1) := by decide +kernel
theorem dX11_row_49 : decode cX11_row 49 = .ok (.iconst 0, 1) := by decide +kernel
theorem dX11_row_50 : decode cX11_row 50 = .ok (.istore 4, 2) := by decide +kernel
theorem dX11_row_52 : decode cX11_row 52 = .ok (.iload 4, 2) := by decide +kernel
theorem dX11_row_54 : decode cX11_row 54 = .ok (.bipush 60, 2) := by decide +kernel
theorem dX11_row_56 : decode cX11_row 56 = .ok (.if_icmp .ge 22, 3) := by decide +kernel
theorem dX11_row_59 : decode cX11_row 59 = .ok (.aload_n 0, 1) := by decide +kernel
theorem dX11_row_60 : decode cX11_row 60 = .ok (.getfield 79, 3) := by decide +kernel
theorem dX11_row_63 : decode cX11_row 63 = .ok (.bipush 60, 2) := by decide +kernel
theorem dX11_row_65 : decode cX11_row 65 = .ok (.iload_n 1, 1) := by decide +kernel
theorem dX11_row_66 : decode cX11_row 66 = .ok (.imul, 1) := by decide +kernel
theorem dX11_row_67 : decode cX11_row 67 = .ok (.iload 4, 2) := by decide +kernel
theorem dX11_row_69 : decode cX11_row 69 = .ok (.iadd, 1) := by decide +kernel
theorem dX11_row_70 : decode cX11_row 70 = .ok (.lconst 0, 1) := by decide +kernel
theorem dX11_row_71 : decode cX11_row 71 = .ok (.lastore, 1) := by decide +kernel
theorem dX11_row_72 : decode cX11_row 72 = .ok (.iinc 4 1, 3) := by decide +kernel
theorem dX11_row_75 : decode cX11_row 75 = .ok (.goto (-23), 3) := by decide +kernel
theorem dX11_row_78 : decode cX11_row 78 = .ok (.iconst 0, 1) := by decide +kernel
theorem dX11_row_79 : decode cX11_row 79 = .ok (.ireturn, 1) := by decide +kernel
theorem dX11_write_0 : decode cX11_write 0 = .ok (.iload_n 1, 1) := by decide +kernel
theorem dX11_write_1 : decode cX11_write 1 = .ok (.invokestatic 425, 3) := by decide +kernel
theorem dX11_write_4 : decode cX11_write 4 = .ok (.ifCond .ne 6, 3) := by decide +kernel
theorem dX11_write_7 : decode cX11_write 7 = .ok (.bipush (-2), 2) := by decide +kernel
theorem dX11_write_9 : decode cX11_write 9 = .ok (.ireturn, 1) := by decide +kernel
theorem dX11_write_10 : decode cX11_write 10 = .ok (.aload_n 0, 1) := by decide +kernel
theorem dX11_write_11 : decode cX11_write 11 = .ok (.getfield 73, 3) := by decide +kernel
theorem dX11_write_14 : decode cX11_write 14 = .ok (.iload_n 1, 1) := by decide +kernel
theorem dX11_write_15 : decode cX11_write 15 = .ok (.iaload, 1) := by decide +kernel
theorem dX11_write_16 : decode cX11_write 16 = .ok (.iconst (-1), 1) := by decide +kernel
theorem dX11_write_17 : decode cX11_write 17 = .ok (.if_icmp .ne 6, 3) := by decide +kernel
theorem dX11_write_20 : decode cX11_write 20 = .ok (.bipush (-6), 2) := by decide +kernel
theorem dX11_write_22 : decode cX11_write 22 = .ok (.ireturn, 1) := by decide +kernel
theorem dX11_write_23 : decode cX11_write 23 = .ok (.iload_n 2, 1) := by decide +kernel
theorem dX11_write_24 : decode cX11_write 24 = .ok (.i2l, 1) := by decide +kernel
theorem dX11_write_25 : decode cX11_write 25 = .ok (.lconst 0, 1) := by decide +kernel
theorem dX11_write_26 : decode cX11_write 26 = .ok (.aload_n 0, 1) := by decide +kernel
theorem dX11_write_27 : decode cX11_write 27 = .ok (.getfield 73, 3) := by decide +kernel
theorem dX11_write_30 : decode cX11_write 30 = .ok (.iload_n 1, 1) := by decide +kernel
theorem dX11_write_31 : decode cX11_write 31 = .ok (.iaload, 1) := by decide +kernel
theorem dX11_write_32 : decode cX11_write 32 = .ok (.iconst 1, 1) := by decide +kernel
theorem dX11_write_33 : decode cX11_write 33 = .ok (.isub, 1) := by decide +kernel
theorem dX11_write_34 : decode cX11_write 34 = .ok (.i2l, 1) := by decide +kernel
theorem dX11_write_35 : decode cX11_write 35 = .ok (.invokestatic 91, 3) := by decide +kernel
theorem dX11_write_38 : decode cX11_write 38 = .ok (.ifCond .ne 6, 3) := by decide +kernel
theorem dX11_write_41 : decode cX11_write 41 = .ok (.bipush (-7), 2) := by decide +kernel
theorem dX11_write_43 : decode cX11_write 43 = .ok (.ireturn, 1) := by decide +kernel
theorem dX11_write_44 : decode cX11_write 44 = .ok (.aload_n 0, 1) := by decide +kernel
theorem dX11_write_45 : decode cX11_write 45 = .ok (.getfield 79, 3) := by decide +kernel
theorem dX11_write_48 : decode cX11_write 48 = .ok (.bipush 60, 2) := by decide +kernel
theorem dX11_write_50 : decode cX11_write 50 = .ok (.iload_n 1, 1) := by decide +kernel
theorem dX11_write_51 : decode cX11_write 51 = .ok (.imul, 1) := by decide +kernel
theorem dX11_write_52 : decode cX11_write 52 = .ok (.iload_n 2, 1) := by decide +kernel
theorem dX11_write_53 : decode cX11_write 53 = .ok (.iadd, 1) := by decide +kernel
theorem dX11_write_54 : decode cX11_write 54 = .ok (.lload_n 3, 1) := by decide +kernel
theorem dX11_write_55 : decode cX11_write 55 = .ok (.aload_n 0, 1) := by decide +kernel
theorem dX11_write_56 : decode cX11_write 56 = .ok (.getfield 76, 3) := by decide +kernel
theorem dX11_write_59 : decode cX11_write 59 = .ok (.iload_n 1, 1) := by decide +kernel
theorem dX11_write_60 : decode cX11_write 60 = .ok (.iaload, 1) := by decide +kernel
theorem dX11_write_61 : decode cX11_write 61 = .ok (.invokestatic 511, 3) := by decide +kernel
theorem dX11_write_64 : decode cX11_write 64 = .ok (.lastore, 1) := by decide +kernel
theorem dX11_write_65 : decode cX11_write 65 = .ok (.iconst 0, 1) := by decide +kernel
theorem dX11_write_66 : decode cX11_write 66 = .ok (.ireturn, 1) := by decide +kernel
theorem dX11_paste_0 : decode cX11_paste 0 = .ok (.iload_n 1, 1) := by decide +kernel
theorem dX11_paste_1 : decode cX11_paste 1 = .ok (.invokestatic 425, 3) := by decide +kernel
theorem dX11_paste_4 : decode cX11_paste 4 = .ok (.ifCond .eq 10, 3) := by decide +kernel
theorem dX11_paste_7 : decode cX11_paste 7 = .ok (.iload_n 3, 1) := by decide +kernel
theorem dX11_paste_8 : decode cX11_paste 8 = .ok (.invokestatic 425, 3) := by decide +kernel
theorem dX11_paste_11 : decode cX11_paste 11 = .ok (.ifCond .ne 6, 3) := by decide +kernel
theorem dX11_paste_14 : decode cX11_paste 14 = .ok (.bipush (-2), 2) := by decide +kernel
theorem dX11_paste_16 : decode cX11_paste 16 = .ok (.ireturn, 1) := by decide +kernel
theorem dX11_paste_17 : decode cX11_paste 17 = .ok (.aload_n 0, 1) := by decide +kernel
theorem dX11_paste_18 : decode cX11_paste 18 = .ok (.getfield 73, 3) := by decide +kernel
theorem dX11_paste_21 : decode cX11_paste 21 = .ok (.iload_n 1, 1) := by decide +kernel
theorem dX11_paste_22 : decode cX11_paste 22 = .ok (.iaload, 1) := by decide +kernel
theorem dX11_paste_23 : decode cX11_paste 23 = .ok (.iconst (-1), 1) := by decide +kernel
theorem dX11_paste_24 : decode cX11_paste 24 = .ok (.if_icmp .eq 13, 3) := by decide +kernel
theorem dX11_paste_27 : decode cX11_paste 27 = .ok (.aload_n 0, 1) := by decide +kernel
theorem dX11_paste_28 : decode cX11_paste 28 = .ok (.getfield 73, 3) := by decide +kernel
theorem dX11_paste_31 : decode cX11_paste 31 = .ok (.iload_n 3, 1) := by decide +kernel
theorem dX11_paste_32 : decode cX11_paste 32 = .ok (.iaload, 1) := by decide +kernel
theorem dX11_paste_33 : decode cX11_paste 33 = .ok (.iconst (-1), 1) := by decide +kernel
theorem dX11_paste_34 : decode cX11_paste 34 = .ok (.if_icmp .ne 6, 3) := by decide +kernel
theorem dX11_paste_37 : decode cX11_paste 37 = .ok (.bipush (-6), 2) := by decide +kernel
theorem dX11_paste_39 : decode cX11_paste 39 = .ok (.ireturn, 1) := by decide +kernel
theorem dX11_paste_40 : decode cX11_paste 40 = .ok (.aload_n 0, 1) := by decide +kernel
theorem dX11_paste_41 : decode cX11_paste 41 = .ok (.getfield 76, 3) := by decide +kernel
theorem dX11_paste_44 : decode cX11_paste 44 = .ok (.iload_n 1, 1) := by decide +kernel
theorem dX11_paste_45 : decode cX11_paste 45 = .ok (.iaload, 1) := by decide +kernel
theorem dX11_paste_46 : decode cX11_paste 46 = .ok (.aload_n 0, 1) := by decide +kernel
theorem dX11_paste_47 : decode cX11_paste 47 = .ok (.getfield 76, 3) := by decide +kernel
theorem dX11_paste_50 : decode cX11_paste 50 = .ok (.iload_n 3, 1) := by decide +kernel
theorem dX11_paste_51 : decode cX11_paste 51 = .ok (.iaload, 1) := by decide +kernel
theorem dX11_paste_52 : decode cX11_paste 52 = .ok (.if_icmp .eq 6, 3) := by decide +kernel
theorem dX11_paste_55 : decode cX11_paste 55 = .ok (.bipush (-8), 2) := by decide +kernel
theorem dX11_paste_57 : decode cX11_paste 57 = .ok (.ireturn, 1) := by decide +kernel
theorem dX11_paste_58 : decode cX11_paste 58 = .ok (.iload_n 2, 1) := by decide +kernel
theorem dX11_paste_59 : decode cX11_paste 59 = .ok (.ifCond .lt 48, 3) := by decide +kernel
theorem dX11_paste_62 : decode cX11_paste 62 = .ok (.iload 4, 2) := by decide +kernel
theorem dX11_paste_64 : decode cX11_paste 64 = .ok (.ifCond .lt 43, 3) := by decide +kernel
theorem dX11_paste_67 : decode cX11_paste 67 = .ok (.iload 5, 2) := by decide +kernel
theorem dX11_paste_69 : decode cX11_paste 69 = .ok (.ifCond .lt 38, 3) := by decide +kernel
theorem dX11_paste_72 : decode cX11_paste 72 = .ok (.iload_n 2, 1) := by decide +kernel
theorem dX11_paste_73 : decode cX11_paste 73 = .ok (.i2l, 1) := by decide +kernel
theorem dX11_paste_74 : decode cX11_paste 74 = .ok (.iload 5, 2) := by decide +kernel
theorem dX11_paste_76 : decode cX11_paste 76 = .ok (.i2l, 1) := by decide +kernel
theorem dX11_paste_77 : decode cX11_paste 77 = .ok (.ladd, 1) := by decide +kernel
theorem dX11_paste_78 : decode cX11_paste 78 = .ok (.aload_n 0, 1) := by decide +kernel
theorem dX11_paste_79 : decode cX11_paste 79 = .ok (.getfield 73, 3) := by decide +kernel
theorem dX11_paste_82 : decode cX11_paste 82 = .ok (.iload_n 1, 1) := by decide +kernel
theorem dX11_paste_83 : decode cX11_paste 83 = .ok (.iaload, 1) := by decide +kernel
theorem dX11_paste_84 : decode cX11_paste 84 = .ok (.i2l, 1) := by decide +kernel
theorem dX11_paste_85 : decode cX11_paste 85 = .ok (.lcmp, 1) := by decide +kernel
theorem dX11_paste_86 : decode cX11_paste 86 = .ok (.ifCond .gt 21, 3) := by decide +kernel
theorem dX11_paste_89 : decode cX11_paste 89 = .ok (.iload 4, 2) := by decide +kernel
theorem dX11_paste_91 : decode cX11_paste 91 = .ok (.i2l, 1) := by decide +kernel
theorem dX11_paste_92 : decode cX11_paste 92 = .ok (.iload 5, 2) := by decide +kernel
theorem dX11_paste_94 : decode cX11_paste 94 = .ok (.i2l, 1) := by decide +kernel
theorem dX11_paste_95 : decode cX11_paste 95 = .ok (.ladd, 1) := by decide +kernel
theorem dX11_paste_96 : decode cX11_paste 96 = .ok (.aload_n 0, 1) := by decide +kernel
theorem dX11_paste_97 : decode cX11_paste 97 = .ok (.getfield 73, 3) := by decide +kernel
theorem dX11_paste_100 : decode cX11_paste 100 = .ok (.iload_n 3, 1) := by decide +kernel
theorem dX11_paste_101 : decode cX11_paste 101 = .ok (.iaload, 1) := by decide +kernel
theorem dX11_paste_102 : decode cX11_paste 102 = .ok (.i2l, 1) := by decide +kernel
theorem dX11_paste_103 : decode cX11_paste 103 = .ok (.lcmp, 1) := by decide +kernel
theorem dX11_paste_104 : decode cX11_paste 104 = .ok (.ifCond .le 6, 3) := by decide +kernel
theorem dX11_paste_107 : decode cX11_paste 107 = .ok (.bipush (-7), 2) := by decide +kernel
theorem dX11_paste_109 : decode cX11_paste 109 = .ok (.ireturn, 1) := by decide +kernel
theorem dX11_paste_110 : decode cX11_paste 110 = .ok (.iconst 0, 1) := by decide +kernel
theorem dX11_paste_111 : decode cX11_paste 111 = .ok (.istore 6, 2) := by decide +kernel
theorem dX11_paste_113 : decode cX11_paste 113 = .ok (.iload 6, 2) := by decide +kernel
theorem dX11_paste_115 : decode cX11_paste 115 = .ok (.iload 5, 2) := by decide +kernel
theorem dX11_paste_117 : decode cX11_paste 117 = .ok (.if_icmp .ge 30, 3) := by decide +kernel
theorem dX11_paste_120 : decode cX11_paste 120 = .ok (.aload_n 0, 1) := by decide +kernel
theorem dX11_paste_121 : decode cX11_paste 121 = .ok (.getfield 83, 3) := by decide +kernel
theorem dX11_paste_124 : decode cX11_paste 124 = .ok (.iload 6, 2) := by decide +kernel
theorem dX11_paste_126 : decode cX11_paste 126 = .ok (.aload_n 0, 1) := by decide +kernel
theorem dX11_paste_127 : decode cX11_paste 127 = .ok (.getfield 79, 3) := by decide +kernel
theorem dX11_paste_130 : decode cX11_paste 130 = .ok (.bipush 60, 2) := by decide +kernel
theorem dX11_paste_132 : decode cX11_paste 132 = .ok (.iload_n 1, 1) := by decide +kernel
theorem dX11_paste_133 : decode cX11_paste 133 = .ok (.imul, 1) := by decide +kernel
theorem dX11_paste_134 : decode cX11_paste 134 = .ok (.iload_n 2, 1) := by decide +kernel
theorem dX11_paste_135 : decode cX11_paste 135 = .ok (.iadd, 1) := by decide +kernel
theorem dX11_paste_136 : decode cX11_paste 136 = .ok (.iload 6, 2) := by decide +kernel
theorem dX11_paste_138 : decode cX11_paste 138 = .ok (.iadd, 1) := by decide +kernel
theorem dX11_paste_139 : decode cX11_paste 139 = .ok (.laload, 1) := by decide +kernel
theorem dX11_paste_140 : decode cX11_paste 140 = .ok (.lastore, 1) := by decide +kernel
theorem dX11_paste_141 : decode cX11_paste 141 = .ok (.iinc 6 1, 3) := by decide +kernel
theorem dX11_paste_144 : decode cX11_paste 144 = .ok (.goto (-31), 3) := by decide +kernel
theorem dX11_paste_147 : decode cX11_paste 147 = .ok (.iconst 0, 1) := by decide +kernel
theorem dX11_paste_148 : decode cX11_paste 148 = .ok (.istore 6, 2) := by decide +kernel
theorem dX11_paste_150 : decode cX11_paste 150 = .ok (.iload 6, 2) := by decide +kernel
theorem dX11_paste_152 : decode cX11_paste 152 = .ok (.iload 5, 2) := by decide +kernel
theorem dX11_paste_154 : decode cX11_paste 154 = .ok (.if_icmp .ge 31, 3) := by decide +kernel
theorem dX11_paste_157 : decode cX11_paste 157 = .ok (.aload_n 0, 1) := by decide +kernel
theorem dX11_paste_158 : decode cX11_paste 158 = .ok (.getfield 79, 3) := by decide +kernel
theorem dX11_paste_161 : decode cX11_paste 161 = .ok (.bipush 60, 2) := by decide +kernel
theorem dX11_paste_163 : decode cX11_paste 163 = .ok (.iload_n 3, 1) := by decide +kernel
theorem dX11_paste_164 : decode cX11_paste 164 = .ok (.imul, 1) := by decide +kernel
theorem dX11_paste_165 : decode cX11_paste 165 = .ok (.iload 4, 2) := by decide +kernel
theorem dX11_paste_167 : decode cX11_paste 167 = .ok (.iadd, 1) := by decide +kernel
theorem dX11_paste_168 : decode cX11_paste 168 = .ok (.iload 6, 2) := by decide +kernel
theorem dX11_paste_170 : decode cX11_paste 170 = .ok (.iadd, 1) := by decide +kernel
theorem dX11_paste_171 : decode cX11_paste 171 = .ok (.aload_n 0, 1) := by decide +kernel
theorem dX11_paste_172 : decode cX11_paste 172 = .ok (.getfield 83, 3) := by decide +kernel
theorem dX11_paste_175 : decode cX11_paste 175 = .ok (.iload 6, 2) := by decide +kernel
theorem dX11_paste_177 : decode cX11_paste 177 = .ok (.laload, 1) := by decide +kernel
theorem dX11_paste_178 : decode cX11_paste 178 = .ok (.lastore, 1) := by decide +kernel
theorem dX11_paste_179 : decode cX11_paste 179 = .ok (.iinc 6 1, 3) := by decide +kernel
theorem dX11_paste_182 : decode cX11_paste 182 = .ok (.goto (-32), 3) := by decide +kernel
theorem dX11_paste_185 : decode cX11_paste 185 = .ok (.iconst 0, 1) := by decide +kernel
theorem dX11_paste_186 : decode cX11_paste 186 = .ok (.ireturn, 1) := by decide +kernel
set_option maxHeartbeats 4000000 in
set_option maxRecDepth 100000 in
theorem ctX11_image (l : Launch) (D : va_G) (k : Nat → ClassId) (z : Nat → Nat) (n : Nat → Nat) (mthrown : Int32) (mtaped : Nat) (msize : Nat) (mat : Nat) (mfrom : Nat) (mtoken : Int32) (mvalue : Int32) (mfaultKind : Int32) (mfaultPlace : Int32) (mmoreMany : Nat) (mlawNow : Int32) (mwetSet : Int32) (moverAll : Int32) (mones : Int32) (mtwos : Int32) (mgone : Int32) (mroundNow : Int32) (msampleFor : Int64) (msampleAll : Int64) (maskWorst : Int32) (moftenAll : Int64) (moftenView : Int64) (moftenOnes : Int64) (fworld : Nat → Int32) (fimages : Nat → Int32) (fhasImage : Nat → Int32) (p0 : Int32) (hmtaped : mtaped ≤ 600) (hmsize : msize ≤ 600) (hmat : mat ≤ 600) (hmfrom : mfrom ≤ 600) (hmmoreMany : mmoreMany ≤ 14) (hkworld : okW fworld) (hkimages : okI fimages) : MU l yX11_image cX11_image 3 (some .int) 1 D k z [.ref (n 0), .int p0] [((n 0), .inr (11, [.int mthrown, .ref (n 1), .ref (n 2), .ref (n 3), .ref (n 4), .int (nI mtaped), .ref (n 5), .int (nI msize), .int (nI mat), .int (nI mfrom), .int mtoken, .int mvalue, .int mfaultKind, .int mfaultPlace, .ref (n 6), .ref (n 7), .ref (n 8), .ref (n 9), .ref (n 10), .ref (n 11), .ref (n 12), .int (nI mmoreMany), .int mlawNow, .int mwetSet, .int moverAll, .ref (n 13), .ref (n 14), .ref (n 15), .int mones, .int mtwos, .int mgone, .ref (n 16), .ref (n 17), .int mroundNow, .ref (n 18), .long msampleFor, .long msampleAll, .ref (n 19), .int maskWorst, .long moftenAll, .long moftenView, .long moftenOnes, .ref (n 20), .ref (n 21), .ref (n 22), .ref (n 23)])), ((n 1), .inl (k 0, 99, .inl fworld)), ((n 2), .inl (k 0, 297, .inl fimages)), ((n 3), .inl (k 3, 3, .inl fhasImage))] 0 0 (Ui D (fun (r : Int32) (u : (Nat → Int32) × (Nat → Nat) × (Nat → Nat → Int32) × (Nat → Nat → Int64) × (Nat → Int64)) => (r = (ansImg p0)) ∧ (okI (u.2.2.1 0)) ∧ ((u.2.2.1 1) = imgK fhasImage p0)) (fun u : (Nat → Int32) × (Nat → Nat) × (Nat → Nat → Int32) × (Nat → Nat → Int64) × (Nat → Int64) => [((n 0), .inr (11, [.int mthrown, .ref (n 1), .ref (n 2), .ref (n 3), .ref (n 4), .int (nI mtaped), .ref (n 5), .int (nI msize), .int (nI mat), .int (nI mfrom), .int mtoken, .int mvalue, .int mfaultKind, .int mfaultPlace, .ref (n 6), .ref (n 7), .ref (n 8), .ref (n 9), .ref (n 10), .ref (n 11), .ref (n 12), .int (nI mmoreMany), .int mlawNow, .int mwetSet, .int moverAll, .ref (n 13), .ref (n 14), .ref (n 15), .int mones, .int mtwos, .int mgone, .ref (n 16), .ref (n 17), .int mroundNow, .ref (n 18), .long msampleFor, .long msampleAll, .ref (n 19), .int maskWorst, .long moftenAll, .long moftenView, .long moftenOnes, .ref (n 20), .ref (n 21), .ref (n 22), .ref (n 23)])), ((n 1), .inl (k 0, 99, .inl fworld)), ((n 2), .inl (k 0, 297, .inl (u.2.2.1 0))), ((n 3), .inl (k 3, 3, .inl (u.2.2.1 1)))])) := by
  refine MU.of (by decide) (Nat.le_of_ble_eq_true rfl) ?_
  intro p e s m below meth c ls A args Q S hr hlk hnm hQ hK hP hD hZ hA hS hl
  have hx := S.1
  have hb := S.2.1
  have hl : lv_has ls 3 [(0, .ref (n 0)), (1, .int p0)] := hl
  have hbfworld := okW_bd hkworld
  refine lv_iload_n hx hb dX11_image_0 rfl (lv_at hl 1 rfl) ?_
  refine lv_i2l (v := p0.toInt64) hx hb dX11_image_1 rfl ?_
  refine lv_lconst (v := 0) hx hb dX11_image_2 (by decide) ?_
  refine lv_ldc2 hx hb S.2.2.2.1 (S.2.2.2.2 _ lkX11_89) dX11_image_3 ?_
  refine x_roSi (As := [.long p0.toInt64, .long 0, .long 2]) S hK hP hD hZ (fun _ h => h) hA hS hA hl mwX11_in lkX11_91 (ctX11_in l D k z p0.toInt64 0 2 ) [] rfl (by decide) rfl rfl ⟨Nat.le_of_ble_eq_true rfl, Nat.le_of_ble_eq_true rfl, Nat.le_of_ble_eq_true rfl⟩ dX11_image_6 ⟨Nat.le_of_ble_eq_true rfl, Nat.le_of_ble_eq_true rfl⟩ (fun r_1 H locs hr_1 hP hS => ?_)
  obtain rfl := hr_1
  refine lv_if_ne (tgt := 15) hx hb dX11_image_9 (by decide) (fun c_3 => ?_) (fun c_3 => ?_)
  · skip
    have c_3 : 0 ≤ p0.toInt64 ∧ p0.toInt64 ≤ 2 := bo_1.mp c_3
    obtain ⟨kj, hkj, ekj⟩ : ∃ kj : Nat, kj < 2 + 1 ∧ p0 = nI kj := nat64g c_3 (by decide) (b := 2) (by decide)
    have hl : lv_has ls 3 [(0, .ref (n 0)), (1, .int (nI kj))] := by rw [ekj] at hl; exact hl
    refine lv_iconst (v := 0) hx hb dX11_image_15 (by decide) ?_
    refine lv_istore_n (lv' := [(2, .int 0), (0, .ref (n 0)), (1, .int (nI kj))]) hx hb dX11_image_16 rfl hl (by decide) rfl (fun ls hl => ?_)
    have lp_15 : ∀ (nn j_13 : Nat) (g_14 : Nat → Int32) (H : Heap) (locs : List Loc) (ls : Array Slot), j_13 ≤ 99 → 99 - j_13 < nn → (∀ i, i < j_13 → g_14 (99 * kj + i) = fworld i) → (∀ a, (a < 99 * kj ∨ 99 * kj + 99 ≤ a) → g_14 a = fimages a) → va_P D vwCl [((n 0), .inr (11, [.int mthrown, .ref (n 1), .ref (n 2), .ref (n 3), .ref (n 4), .int (nI mtaped), .ref (n 5), .int (nI msize), .int (nI mat), .int (nI mfrom), .int mtoken, .int mvalue, .int mfaultKind, .int mfaultPlace, .ref (n 6), .ref (n 7), .ref (n 8), .ref (n 9), .ref (n 10), .ref (n 11), .ref (n 12), .int (nI mmoreMany), .int mlawNow, .int mwetSet, .int moverAll, .ref (n 13), .ref (n 14), .ref (n 15), .int mones, .int mtwos, .int mgone, .ref (n 16), .ref (n 17), .int mroundNow, .ref (n 18), .long msampleFor, .long msampleAll, .ref (n 19), .int maskWorst, .long moftenAll, .long moftenView, .long moftenOnes, .ref (n 20), .ref (n 21), .ref (n 22), .ref (n 23)])), ((n 1), .inl (k 0, 99, .inl fworld)), ((n 2), .inl (k 0, 297, .inl g_14)), ((n 3), .inl (k 3, 3, .inl fhasImage))] H → va_D A [((n 0), .inr (11, [.int mthrown, .ref (n 1), .ref (n 2), .ref (n 3), .ref (n 4), .int (nI mtaped), .ref (n 5), .int (nI msize), .int (nI mat), .int (nI mfrom), .int mtoken, .int mvalue, .int mfaultKind, .int mfaultPlace, .ref (n 6), .ref (n 7), .ref (n 8), .ref (n 9), .ref (n 10), .ref (n 11), .ref (n 12), .int (nI mmoreMany), .int mlawNow, .int mwetSet, .int moverAll, .ref (n 13), .ref (n 14), .ref (n 15), .int mones, .int mtwos, .int mgone, .ref (n 16), .ref (n 17), .int mroundNow, .ref (n 18), .long msampleFor, .long msampleAll, .ref (n 19), .int maskWorst, .long moftenAll, .long moftenView, .long moftenOnes, .ref (n 20), .ref (n 21), .ref (n 22), .ref (n 23)])), ((n 1), .inl (k 0, 99, .inl fworld)), ((n 2), .inl (k 0, 297, .inl g_14)), ((n 3), .inl (k 3, 3, .inl fhasImage))] → va_S A s.heap H locs → lv_has ls 3 [(2, .int (nI j_13)), (0, .ref (n 0)), (1, .int (nI kj))] → W p l e (Rm 1 0 0) s m args below meth c H locs 0 0 Q (F0 m 17 ls []) := by
      intro nn
      induction nn with
      | zero => intro j_13 g_14 H locs ls hjj_13 hnj_13 hI1 hI2; exact absurd hnj_13 (by omega)
      | succ nn ihj_13 =>
        intro j_13 g_14 H locs ls hjj_13 hnj_13 hI1 hI2 hP hD hS hl
        refine lv_iload_n hx hb dX11_image_17 rfl (lv_at hl 0 rfl) ?_
        refine lv_bipush (v := 99) hx hb dX11_image_18 (by decide) ?_
        refine lv_icmp_ge (tgt := 46) hx hb dX11_image_20 (by decide) (fun c_16 => ?_) (fun c_16 => ?_)
        · skip
          have c_16 : 99 ≤ j_13 := (ni_le (by decide) rfl (by omega) (by omega)).mp c_16
          have hI3 := okI_img hkimages hkworld hI1 hI2 (by omega)
          refine lv_aload_n hx hb dX11_image_46 rfl (lv_at hl 1 rfl) ?_
          refine x_get S hK hP 0 rfl cfX11 3 lkX11_16 (by decide) rfl dX11_image_47 ?_
          refine lv_iload_n hx hb dX11_image_50 rfl (lv_at hl 2 rfl) ?_
          refine lv_iconst (v := 1) hx hb dX11_image_51 (by decide) ?_
          refine x_zast (ws' := fun f_17 => [((n 0), .inr (11, [.int mthrown, .ref (n 1), .ref (n 2), .ref (n 3), .ref (n 4), .int (nI mtaped), .ref (n 5), .int (nI msize), .int (nI mat), .int (nI mfrom), .int mtoken, .int mvalue, .int mfaultKind, .int mfaultPlace, .ref (n 6), .ref (n 7), .ref (n 8), .ref (n 9), .ref (n 10), .ref (n 11), .ref (n 12), .int (nI mmoreMany), .int mlawNow, .int mwetSet, .int moverAll, .ref (n 13), .ref (n 14), .ref (n 15), .int mones, .int mtwos, .int mgone, .ref (n 16), .ref (n 17), .int mroundNow, .ref (n 18), .long msampleFor, .long msampleAll, .ref (n 19), .int maskWorst, .long moftenAll, .long moftenView, .long moftenOnes, .ref (n 20), .ref (n 21), .ref (n 22), .ref (n 23)])), ((n 1), .inl (k 0, 99, .inl fworld)), ((n 2), .inl (k 0, 297, .inl g_14)), ((n 3), .inl (k 3, 3, .inl f_17))]) S hK hP hD hS 3 rfl (vp_in_nI (by omega) (by decide)) (fun _ => rfl) dX11_image_52 (fun f_17 H locs ef_17 hP hD hS => ?_)
          refine lv_iconst (v := 0) hx hb dX11_image_53 (by decide) ?_
          exact x_reti S hr hlk hQ hS ((fun i => ([] : List (Int32)).getD i 0), (fun i => ([] : List (Nat)).getD i 0), (fun i => ([g_14, f_17] : List (Nat → Int32)).getD i (fun _ => 0)), (fun i => ([] : List (Nat → Int64)).getD i (fun _ => 0)), (fun i => ([] : List (Int64)).getD i 0)) ⟨(aim_y ekj (by omega)), hI3, (imgK_y ekj (by omega) ef_17 rfl)⟩ (x_B hP hD) dX11_image_54
        · skip
          have c_16 : ¬ 99 ≤ j_13 := fun q => c_16 ((ni_le (by decide) rfl (by omega) (by omega)).mpr q)
          refine lv_aload_n hx hb dX11_image_23 rfl (lv_at hl 1 rfl) ?_
          refine x_get S hK hP 0 rfl cfX11 2 lkX11_13 (by decide) rfl dX11_image_24 ?_
          refine lv_bipush (v := 99) hx hb dX11_image_27 (by decide) ?_
          refine lv_iload_n hx hb dX11_image_29 rfl (lv_at hl 2 rfl) ?_
          refine lv_imul hx hb dX11_image_30 ?_
          refine x_is (nI (99 * kj)) (ni_mul (by decide) rfl) ?_
          refine lv_iload_n hx hb dX11_image_31 rfl (lv_at hl 0 rfl) ?_
          refine lv_iadd hx hb dX11_image_32 ?_
          refine x_is (nI (99 * kj + j_13)) (ni_add rfl rfl) ?_
          refine lv_aload_n hx hb dX11_image_33 rfl (lv_at hl 1 rfl) ?_
          refine x_get S hK hP 0 rfl cfX11 1 lkX11_9 (by decide) rfl dX11_image_34 ?_
          refine lv_iload_n hx hb dX11_image_37 rfl (lv_at hl 0 rfl) ?_
          refine x_iald S hK hP 1 rfl (vp_in_nI (by omega) (by decide)) dX11_image_38 ?_
          refine lv_topi (fun v_18 ev_18 => ?_)
          refine x_iast (ws' := fun f_19 => [((n 0), .inr (11, [.int mthrown, .ref (n 1), .ref (n 2), .ref (n 3), .ref (n 4), .int (nI mtaped), .ref (n 5), .int (nI msize), .int (nI mat), .int (nI mfrom), .int mtoken, .int mvalue, .int mfaultKind, .int mfaultPlace, .ref (n 6), .ref (n 7), .ref (n 8), .ref (n 9), .ref (n 10), .ref (n 11), .ref (n 12), .int (nI mmoreMany), .int mlawNow, .int mwetSet, .int moverAll, .ref (n 13), .ref (n 14), .ref (n 15), .int mones, .int mtwos, .int mgone, .ref (n 16), .ref (n 17), .int mroundNow, .ref (n 18), .long msampleFor, .long msampleAll, .ref (n 19), .int maskWorst, .long moftenAll, .long moftenView, .long moftenOnes, .ref (n 20), .ref (n 21), .ref (n 22), .ref (n 23)])), ((n 1), .inl (k 0, 99, .inl fworld)), ((n 2), .inl (k 0, 297, .inl f_19)), ((n 3), .inl (k 3, 3, .inl fhasImage))]) S hK hP hD hS 2 rfl (vp_in_nI (by omega) (by decide)) (fun _ => rfl) dX11_image_39 (fun f_19 H locs ef_19 hP hD hS => ?_)
          refine lv_iinc (v := (nI (j_13 + 1))) (lv' := [(2, .int (nI (j_13 + 1))), (0, .ref (n 0)), (1, .int (nI kj))]) hx hb dX11_image_40 hl (k := 0) rfl (ni_inc _) (by decide) rfl (fun ls hl => ?_)
          refine lv_goto (tgt := 17) hx hb dX11_image_43 (by decide) ?_
          exact ihj_13 (j_13 + 1) f_19 _ _ _ (by omega) (by omega) (ci_step hI1 ef_19 rfl (ev_18.trans (cl_at (a := j_13) rfl (by omega))) (by omega)) (co_step hI2 ef_19 rfl (by omega) (by omega)) hP hD hS (lv_sub hl [0, 1, 2] rfl)
    exact lp_15 (99 + 1) 0 fimages _ _ _ (by omega) (by omega) (fun i hi => absurd hi (by omega)) (fun _ _ => rfl) hP hD hS (lv_sub hl [0, 1, 2] rfl)
  · skip
    have c_3 : ¬ (0 ≤ p0.toInt64 ∧ p0.toInt64 ≤ 2) := bo_0.mp c_3
    refine lv_bipush (v := (-2)) hx hb dX11_image_12 (by decide) ?_
    exact x_reti S hr hlk hQ hS ((fun i => ([] : List (Int32)).getD i 0), (fun i => ([] : List (Nat)).getD i 0), (fun i => ([fimages, fhasImage] : List (Nat → Int32)).getD i (fun _ => 0)), (fun i => ([] : List (Nat → Int64)).getD i (fun _ => 0)), (fun i => ([] : List (Int64)).getD i 0)) ⟨(aim_n (fun q => c_3 (i64_2.mpr q))), hkimages, (imgK_n (fun q => c_3 (i64_2.mpr q)))⟩ (x_B hP hD) dX11_image_14

set_option maxHeartbeats 4000000 in
set_option maxRecDepth 100000 in
theorem ctX11_back (l : Launch) (D : va_G) (k : Nat → ClassId) (z : Nat → Nat) (n : Nat → Nat) (mthrown : Int32) (mtaped : Nat) (msize : Nat) (mat : Nat) (mfrom : Nat) (mtoken : Int32) (mvalue : Int32) (mfaultKind : Int32) (mfaultPlace : Int32) (mmoreMany : Nat) (mlawNow : Int32) (mwetSet : Int32) (moverAll : Int32) (mones : Int32) (mtwos : Int32) (mgone : Int32) (mroundNow : Int32) (msampleFor : Int64) (msampleAll : Int64) (maskWorst : Int32) (moftenAll : Int64) (moftenView : Int64) (moftenOnes : Int64) (fworld : Nat → Int32) (fimages : Nat → Int32) (fhasImage : Nat → Int32) (p0 : Int32) (hmtaped : mtaped ≤ 600) (hmsize : msize ≤ 600) (hmat : mat ≤ 600) (hmfrom : mfrom ≤ 600) (hmmoreMany : mmoreMany ≤ 14) (hkworld : okW fworld) (hkimages : okI fimages) : MU l yX11_back cX11_back 3 (some .int) 1 D k z [.ref (n 0), .int p0] [((n 0), .inr (11, [.int mthrown, .ref (n 1), .ref (n 2), .ref (n 3), .ref (n 4), .int (nI mtaped), .ref (n 5), .int (nI msize), .int (nI mat), .int (nI mfrom), .int mtoken, .int mvalue, .int mfaultKind, .int mfaultPlace, .ref (n 6), .ref (n 7), .ref (n 8), .ref (n 9), .ref (n 10), .ref (n 11), .ref (n 12), .int (nI mmoreMany), .int mlawNow, .int mwetSet, .int moverAll, .ref (n 13), .ref (n 14), .ref (n 15), .int mones, .int mtwos, .int mgone, .ref (n 16), .ref (n 17), .int mroundNow, .ref (n 18), .long msampleFor, .long msampleAll, .ref (n 19), .int maskWorst, .long moftenAll, .long moftenView, .long moftenOnes, .ref (n 20), .ref (n 21), .ref (n 22), .ref (n 23)])), ((n 1), .inl (k 0, 99, .inl fworld)), ((n 2), .inl (k 0, 297, .inl fimages)), ((n 3), .inl (k 3, 3, .inl fhasImage))] 0 0 (Ui D (fun (r : Int32) (u : (Nat → Int32) × (Nat → Nat) × (Nat → Nat → Int32) × (Nat → Nat → Int64) × (Nat → Int64)) => (r = (ansBack fhasImage p0)) ∧ (okW (u.2.2.1 0))) (fun u : (Nat → Int32) × (Nat → Nat) × (Nat → Nat → Int32) × (Nat → Nat → Int64) × (Nat → Int64) => [((n 0), .inr (11, [.int mthrown, .ref (n 1), .ref (n 2), .ref (n 3), .ref (n 4), .int (nI mtaped), .ref (n 5), .int (nI msize), .int (nI mat), .int (nI mfrom), .int mtoken, .int mvalue, .int mfaultKind, .int mfaultPlace, .ref (n 6), .ref (n 7), .ref (n 8), .ref (n 9), .ref (n 10), .ref (n 11), .ref (n 12), .int (nI mmoreMany), .int mlawNow, .int mwetSet, .int moverAll, .ref (n 13), .ref (n 14), .ref (n 15), .int mones, .int mtwos, .int mgone, .ref (n 16), .ref (n 17), .int mroundNow, .ref (n 18), .long msampleFor, .long msampleAll, .ref (n 19), .int maskWorst, .long moftenAll, .long moftenView, .long moftenOnes, .ref (n 20), .ref (n 21), .ref (n 22), .ref (n 23)])), ((n 1), .inl (k 0, 99, .inl (u.2.2.1 0))), ((n 2), .inl (k 0, 297, .inl fimages)), ((n 3), .inl (k 3, 3, .inl fhasImage))])) := by
  refine MU.of (by decide) (Nat.le_of_ble_eq_true rfl) ?_
  intro p e s m below meth c ls A args Q S hr hlk hnm hQ hK hP hD hZ hA hS hl
  have hx := S.1
  have hb := S.2.1
  have hl : lv_has ls 3 [(0, .ref (n 0)), (1, .int p0)] := hl
  have hbfworld := okW_bd hkworld
  refine lv_iload_n hx hb dX11_back_0 rfl (lv_at hl 1 rfl) ?_
  refine lv_i2l (v := p0.toInt64) hx hb dX11_back_1 rfl ?_
  refine lv_lconst (v := 0) hx hb dX11_back_2 (by decide) ?_
  refine lv_ldc2 hx hb S.2.2.2.1 (S.2.2.2.2 _ lkX11_89) dX11_back_3 ?_
  refine x_roSi (As := [.long p0.toInt64, .long 0, .long 2]) S hK hP hD hZ (fun _ h => h) hA hS hA hl mwX11_in lkX11_91 (ctX11_in l D k z p0.toInt64 0 2 ) [] rfl (by decide) rfl rfl ⟨Nat.le_of_ble_eq_true rfl, Nat.le_of_ble_eq_true rfl, Nat.le_of_ble_eq_true rfl⟩ dX11_back_6 ⟨Nat.le_of_ble_eq_true rfl, Nat.le_of_ble_eq_true rfl⟩ (fun r_1 H locs hr_1 hP hS => ?_)
  obtain rfl := hr_1
  refine lv_if_ne (tgt := 15) hx hb dX11_back_9 (by decide) (fun c_3 => ?_) (fun c_3 => ?_)
  · skip
    have c_3 : 0 ≤ p0.toInt64 ∧ p0.toInt64 ≤ 2 := bo_1.mp c_3
    obtain ⟨kj, hkj, ekj⟩ : ∃ kj : Nat, kj < 2 + 1 ∧ p0 = nI kj := nat64g c_3 (by decide) (b := 2) (by decide)
    have hl : lv_has ls 3 [(0, .ref (n 0)), (1, .int (nI kj))] := by rw [ekj] at hl; exact hl
    refine lv_aload_n hx hb dX11_back_15 rfl (lv_at hl 0 rfl) ?_
    refine x_get S hK hP 0 rfl cfX11 3 lkX11_16 (by decide) rfl dX11_back_16 ?_
    refine lv_iload_n hx hb dX11_back_19 rfl (lv_at hl 1 rfl) ?_
    refine x_zald S hK hP 3 rfl (vp_in_nI (by omega) (by decide)) dX11_back_20 ?_
    refine lv_topi (fun v_4 ev_4 => ?_)
    refine lv_if_ne (tgt := 27) hx hb dX11_back_21 (by decide) (fun c_5 => ?_) (fun c_5 => ?_)
    · skip
      refine lv_iconst (v := 0) hx hb dX11_back_27 (by decide) ?_
      refine lv_istore_n (lv' := [(2, .int 0), (0, .ref (n 0)), (1, .int (nI kj))]) hx hb dX11_back_28 rfl hl (by decide) rfl (fun ls hl => ?_)
      have lp_17 : ∀ (nn j_15 : Nat) (g_16 : Nat → Int32) (H : Heap) (locs : List Loc) (ls : Array Slot), j_15 ≤ 99 → 99 - j_15 < nn → (∀ i, i < j_15 → g_16 i = fimages (99 * kj + i)) → va_P D vwCl [((n 0), .inr (11, [.int mthrown, .ref (n 1), .ref (n 2), .ref (n 3), .ref (n 4), .int (nI mtaped), .ref (n 5), .int (nI msize), .int (nI mat), .int (nI mfrom), .int mtoken, .int mvalue, .int mfaultKind, .int mfaultPlace, .ref (n 6), .ref (n 7), .ref (n 8), .ref (n 9), .ref (n 10), .ref (n 11), .ref (n 12), .int (nI mmoreMany), .int mlawNow, .int mwetSet, .int moverAll, .ref (n 13), .ref (n 14), .ref (n 15), .int mones, .int mtwos, .int mgone, .ref (n 16), .ref (n 17), .int mroundNow, .ref (n 18), .long msampleFor, .long msampleAll, .ref (n 19), .int maskWorst, .long moftenAll, .long moftenView, .long moftenOnes, .ref (n 20), .ref (n 21), .ref (n 22), .ref (n 23)])), ((n 1), .inl (k 0, 99, .inl g_16)), ((n 2), .inl (k 0, 297, .inl fimages)), ((n 3), .inl (k 3, 3, .inl fhasImage))] H → va_D A [((n 0), .inr (11, [.int mthrown, .ref (n 1), .ref (n 2), .ref (n 3), .ref (n 4), .int (nI mtaped), .ref (n 5), .int (nI msize), .int (nI mat), .int (nI mfrom), .int mtoken, .int mvalue, .int mfaultKind, .int mfaultPlace, .ref (n 6), .ref (n 7), .ref (n 8), .ref (n 9), .ref (n 10), .ref (n 11), .ref (n 12), .int (nI mmoreMany), .int mlawNow, .int mwetSet, .int moverAll, .ref (n 13), .ref (n 14), .ref (n 15), .int mones, .int mtwos, .int mgone, .ref (n 16), .ref (n 17), .int mroundNow, .ref (n 18), .long msampleFor, .long msampleAll, .ref (n 19), .int maskWorst, .long moftenAll, .long moftenView, .long moftenOnes, .ref (n 20), .ref (n 21), .ref (n 22), .ref (n 23)])), ((n 1), .inl (k 0, 99, .inl g_16)), ((n 2), .inl (k 0, 297, .inl fimages)), ((n 3), .inl (k 3, 3, .inl fhasImage))] → va_S A s.heap H locs → lv_has ls 3 [(2, .int (nI j_15)), (0, .ref (n 0)), (1, .int (nI kj))] → W p l e (Rm 1 0 0) s m args below meth c H locs 0 0 Q (F0 m 29 ls []) := by
        intro nn
        induction nn with
        | zero => intro j_15 g_16 H locs ls hjj_15 hnj_15 hcp; exact absurd hnj_15 (by omega)
        | succ nn ihj_15 =>
          intro j_15 g_16 H locs ls hjj_15 hnj_15 hcp hP hD hS hl
          refine lv_iload_n hx hb dX11_back_29 rfl (lv_at hl 0 rfl) ?_
          refine lv_bipush (v := 99) hx hb dX11_back_30 (by decide) ?_
          refine lv_icmp_ge (tgt := 58) hx hb dX11_back_32 (by decide) (fun c_18 => ?_) (fun c_18 => ?_)
          · skip
            have c_18 : 99 ≤ j_15 := (ni_le (by decide) rfl (by omega) (by omega)).mp c_18
            have hW1 := okW_congr (hkimages kj (by omega)) (fun i hi => hcp i (by omega))
            refine lv_iconst (v := 0) hx hb dX11_back_58 (by decide) ?_
            exact x_reti S hr hlk hQ hS ((fun i => ([] : List (Int32)).getD i 0), (fun i => ([] : List (Nat)).getD i 0), (fun i => ([g_16] : List (Nat → Int32)).getD i (fun _ => 0)), (fun i => ([] : List (Nat → Int64)).getD i (fun _ => 0)), (fun i => ([] : List (Int64)).getD i 0)) ⟨(abk_0 ekj (by omega) (ev_4.trans (cl_at (a := kj) rfl (by omega))) c_5), hW1⟩ (x_B hP hD) dX11_back_59
          · skip
            have c_18 : ¬ 99 ≤ j_15 := fun q => c_18 ((ni_le (by decide) rfl (by omega) (by omega)).mpr q)
            refine lv_aload_n hx hb dX11_back_35 rfl (lv_at hl 1 rfl) ?_
            refine x_get S hK hP 0 rfl cfX11 1 lkX11_9 (by decide) rfl dX11_back_36 ?_
            refine lv_iload_n hx hb dX11_back_39 rfl (lv_at hl 0 rfl) ?_
            refine lv_aload_n hx hb dX11_back_40 rfl (lv_at hl 1 rfl) ?_
            refine x_get S hK hP 0 rfl cfX11 2 lkX11_13 (by decide) rfl dX11_back_41 ?_
            refine lv_bipush (v := 99) hx hb dX11_back_44 (by decide) ?_
            refine lv_iload_n hx hb dX11_back_46 rfl (lv_at hl 2 rfl) ?_
            refine lv_imul hx hb dX11_back_47 ?_
            refine x_is (nI (99 * kj)) (ni_mul (by decide) rfl) ?_
            refine lv_iload_n hx hb dX11_back_48 rfl (lv_at hl 0 rfl) ?_
            refine lv_iadd hx hb dX11_back_49 ?_
            refine x_is (nI (99 * kj + j_15)) (ni_add rfl rfl) ?_
            refine x_iald S hK hP 2 rfl (vp_in_nI (by omega) (by decide)) dX11_back_50 ?_
            refine lv_topi (fun v_19 ev_19 => ?_)
            refine x_iast (ws' := fun f_20 => [((n 0), .inr (11, [.int mthrown, .ref (n 1), .ref (n 2), .ref (n 3), .ref (n 4), .int (nI mtaped), .ref (n 5), .int (nI msize), .int (nI mat), .int (nI mfrom), .int mtoken, .int mvalue, .int mfaultKind, .int mfaultPlace, .ref (n 6), .ref (n 7), .ref (n 8), .ref (n 9), .ref (n 10), .ref (n 11), .ref (n 12), .int (nI mmoreMany), .int mlawNow, .int mwetSet, .int moverAll, .ref (n 13), .ref (n 14), .ref (n 15), .int mones, .int mtwos, .int mgone, .ref (n 16), .ref (n 17), .int mroundNow, .ref (n 18), .long msampleFor, .long msampleAll, .ref (n 19), .int maskWorst, .long moftenAll, .long moftenView, .long moftenOnes, .ref (n 20), .ref (n 21), .ref (n 22), .ref (n 23)])), ((n 1), .inl (k 0, 99, .inl f_20)), ((n 2), .inl (k 0, 297, .inl fimages)), ((n 3), .inl (k 3, 3, .inl fhasImage))]) S hK hP hD hS 1 rfl (vp_in_nI (by omega) (by decide)) (fun _ => rfl) dX11_back_51 (fun f_20 H locs ef_20 hP hD hS => ?_)
            refine lv_iinc (v := (nI (j_15 + 1))) (lv' := [(2, .int (nI (j_15 + 1))), (0, .ref (n 0)), (1, .int (nI kj))]) hx hb dX11_back_52 hl (k := 0) rfl (ni_inc _) (by decide) rfl (fun ls hl => ?_)
            refine lv_goto (tgt := 29) hx hb dX11_back_55 (by decide) ?_
            exact ihj_15 (j_15 + 1) f_20 _ _ _ (by omega) (by omega) (cp_step (f := fun i => fimages (99 * kj + i)) hcp ef_20 rfl (ev_19.trans (cl_at (a := 99 * kj + j_15) rfl (by omega))) (by omega)) hP hD hS (lv_sub hl [0, 1, 2] rfl)
      exact lp_17 (99 + 1) 0 fworld _ _ _ (by omega) (by omega) (fun i hi => absurd hi (by omega)) hP hD hS (lv_sub hl [0, 1, 2] rfl)
    · skip
      refine lv_bipush (v := (-6)) hx hb dX11_back_24 (by decide) ?_
      exact x_reti S hr hlk hQ hS ((fun i => ([] : List (Int32)).getD i 0), (fun i => ([] : List (Nat)).getD i 0), (fun i => ([fworld] : List (Nat → Int32)).getD i (fun _ => 0)), (fun i => ([] : List (Nat → Int64)).getD i (fun _ => 0)), (fun i => ([] : List (Int64)).getD i 0)) ⟨(abk_6 ekj (by omega) (ev_4.trans (cl_at (a := kj) rfl (by omega))) c_5), hkworld⟩ (x_B hP hD) dX11_back_26
  · skip
    have c_3 : ¬ (0 ≤ p0.toInt64 ∧ p0.toInt64 ≤ 2) := bo_0.mp c_3
    refine lv_bipush (v := (-2)) hx hb dX11_back_12 (by decide) ?_
    exact x_reti S hr hlk hQ hS ((fun i => ([] : List (Int32)).getD i 0), (fun i => ([] : List (Nat)).getD i 0), (fun i => ([fworld] : List (Nat → Int32)).getD i (fun _ => 0)), (fun i => ([] : List (Nat → Int64)).getD i (fun _ => 0)), (fun i => ([] : List (Int64)).getD i 0)) ⟨(abk_n (fun q => c_3 (i64_2.mpr q))), hkworld⟩ (x_B hP hD) dX11_back_14

theorem lfctX11_row_0 (p0 : Int32) (p1 : Int32) (p2 : Int32) (c_3 : ¬ (0 ≤ p0.toInt64 ∧ p0.toInt64 ≤ 3)) : (-2) = (ansRow p0 p1 p2) := (by
  simp only [ansRow]
  repeat' split
  all_goals first | rfl | assumption | (exfalso; simp only [fa_lt, fa_le, fa_eq, fa_lt64, fa_le64, fa_eq64, Int32.toInt_toInt64, tz_0, tz_1, tz_2, tz_3, tz_4, tz_5, tz_6, tz_7, tz_8, tz_9, tz_10, tz_60, tz_m1, tl_0, tl_1, tl_2, tl_3, tl_4, tl_5, tl_6, tl_7, tl_8, tl_9, tl_10, tl_60, tl_m1] at * <;> omega))
theorem lfctX11_row_1 (p0 : Int32) (p1 : Int32) (p2 : Int32) (c_3 : 0 ≤ p0.toInt64 ∧ p0.toInt64 ≤ 3) (c_6 : ¬ (0 ≤ p1.toInt64 ∧ p1.toInt64 ≤ 3)) : (-2) = (ansRow p0 p1 p2) := (by
  simp only [ansRow]
  repeat' split
  all_goals first | rfl | assumption | (exfalso; simp only [fa_lt, fa_le, fa_eq, fa_lt64, fa_le64, fa_eq64, Int32.toInt_toInt64, tz_0, tz_1, tz_2, tz_3, tz_4, tz_5, tz_6, tz_7, tz_8, tz_9, tz_10, tz_60, tz_m1, tl_0, tl_1, tl_2, tl_3, tl_4, tl_5, tl_6, tl_7, tl_8, tl_9, tl_10, tl_60, tl_m1] at * <;> omega))
theorem lfctX11_row_2 (p0 : Int32) (p1 : Int32) (p2 : Int32) (c_3 : 0 ≤ p0.toInt64 ∧ p0.toInt64 ≤ 3) (c_6 : 0 ≤ p1.toInt64 ∧ p1.toInt64 ≤ 3) (c_7 : p2 ≤ 60) (c_8 : 0 ≤ p2) : 0 = (ansRow p0 p1 p2) := (by
  simp only [ansRow]
  repeat' split
  all_goals first | rfl | assumption | (exfalso; simp only [fa_lt, fa_le, fa_eq, fa_lt64, fa_le64, fa_eq64, Int32.toInt_toInt64, tz_0, tz_1, tz_2, tz_3, tz_4, tz_5, tz_6, tz_7, tz_8, tz_9, tz_10, tz_60, tz_m1, tl_0, tl_1, tl_2, tl_3, tl_4, tl_5, tl_6, tl_7, tl_8, tl_9, tl_10, tl_60, tl_m1] at * <;> omega))
theorem lfctX11_row_3 (p0 : Int32) (p1 : Int32) (p2 : Int32) (c_3 : 0 ≤ p0.toInt64 ∧ p0.toInt64 ≤ 3) (c_6 : 0 ≤ p1.toInt64 ∧ p1.toInt64 ≤ 3) (c_7 : p2 ≤ 60) (c_8 : ¬ 0 ≤ p2) : (-3) = (ansRow p0 p1 p2) := (by
  simp only [ansRow]
  repeat' split
  all_goals first | rfl | assumption | (exfalso; simp only [fa_lt, fa_le, fa_eq, fa_lt64, fa_le64, fa_eq64, Int32.toInt_toInt64, tz_0, tz_1, tz_2, tz_3, tz_4, tz_5, tz_6, tz_7, tz_8, tz_9, tz_10, tz_60, tz_m1, tl_0, tl_1, tl_2, tl_3, tl_4, tl_5, tl_6, tl_7, tl_8, tl_9, tl_10, tl_60, tl_m1] at * <;> omega))
theorem lfctX11_row_4 (p0 : Int32) (p1 : Int32) (p2 : Int32) (c_3 : 0 ≤ p0.toInt64 ∧ p0.toInt64 ≤ 3) (c_6 : 0 ≤ p1.toInt64 ∧ p1.toInt64 ≤ 3) (c_7 : ¬ p2 ≤ 60) : (-2) = (ansRow p0 p1 p2) := (by
  simp only [ansRow]
  repeat' split
  all_goals first | rfl | assumption | (exfalso; simp only [fa_lt, fa_le, fa_eq, fa_lt64, fa_le64, fa_eq64, Int32.toInt_toInt64, tz_0, tz_1, tz_2, tz_3, tz_4, tz_5, tz_6, tz_7, tz_8, tz_9, tz_10, tz_60, tz_m1, tl_0, tl_1, tl_2, tl_3, tl_4, tl_5, tl_6, tl_7, tl_8, tl_9, tl_10, tl_60, tl_m1] at * <;> omega))
set_option maxHeartbeats 4000000 in
set_option maxRecDepth 100000 in
theorem ctX11_row (l : Launch) (D : va_G) (k : Nat → ClassId) (z : Nat → Nat) (n : Nat → Nat) (mthrown : Int32) (mtaped : Nat) (msize : Nat) (mat : Nat) (mfrom : Nat) (mtoken : Int32) (mvalue : Int32) (mfaultKind : Int32) (mfaultPlace : Int32) (mmoreMany : Nat) (mlawNow : Int32) (mwetSet : Int32) (moverAll : Int32) (mones : Int32) (mtwos : Int32) (mgone : Int32) (mroundNow : Int32) (msampleFor : Int64) (msampleAll : Int64) (maskWorst : Int32) (moftenAll : Int64) (moftenView : Int64) (moftenOnes : Int64) (fmany : Nat → Int32) (fwidth : Nat → Int32) (fnumbers : Nat → Int64) (p0 : Int32) (p1 : Int32) (p2 : Int32) (hmtaped : mtaped ≤ 600) (hmsize : msize ≤ 600) (hmat : mat ≤ 600) (hmfrom : mfrom ≤ 600) (hmmoreMany : mmoreMany ≤ 14) (hkmany : okL fmany) : MU l yX11_row cX11_row 5 (some .int) 2 D k z [.ref (n 0), .int p0, .int p1, .int p2] [((n 0), .inr (11, [.int mthrown, .ref (n 1), .ref (n 2), .ref (n 3), .ref (n 4), .int (nI mtaped), .ref (n 5), .int (nI msize), .int (nI mat), .int (nI mfrom), .int mtoken, .int mvalue, .int mfaultKind, .int mfaultPlace, .ref (n 6), .ref (n 7), .ref (n 8), .ref (n 9), .ref (n 10), .ref (n 11), .ref (n 12), .int (nI mmoreMany), .int mlawNow, .int mwetSet, .int moverAll, .ref (n 13), .ref (n 14), .ref (n 15), .int mones, .int mtwos, .int mgone, .ref (n 16), .ref (n 17), .int mroundNow, .ref (n 18), .long msampleFor, .long msampleAll, .ref (n 19), .int maskWorst, .long moftenAll, .long moftenView, .long moftenOnes, .ref (n 20), .ref (n 21), .ref (n 22), .ref (n 23)])), ((n 20), .inl (k 0, 4, .inl fmany)), ((n 21), .inl (k 0, 4, .inl fwidth)), ((n 22), .inl (k 2, 240, .inr (.inl fnumbers)))] 0 0 (Ui D (fun (r : Int32) (u : (Nat → Int32) × (Nat → Nat) × (Nat → Nat → Int32) × (Nat → Nat → Int64) × (Nat → Int64)) => (r = (ansRow p0 p1 p2)) ∧ (okL (u.2.2.1 0)) ∧ ((u.2.2.1 0) = rowL fmany p0 p1 p2) ∧ ((u.2.2.1 1) = rowW fwidth p0 p1 p2)) (fun u : (Nat → Int32) × (Nat → Nat) × (Nat → Nat → Int32) × (Nat → Nat → Int64) × (Nat → Int64) => [((n 0), .inr (11, [.int mthrown, .ref (n 1), .ref (n 2), .ref (n 3), .ref (n 4), .int (nI mtaped), .ref (n 5), .int (nI msize), .int (nI mat), .int (nI mfrom), .int mtoken, .int mvalue, .int mfaultKind, .int mfaultPlace, .ref (n 6), .ref (n 7), .ref (n 8), .ref (n 9), .ref (n 10), .ref (n 11), .ref (n 12), .int (nI mmoreMany), .int mlawNow, .int mwetSet, .int moverAll, .ref (n 13), .ref (n 14), .ref (n 15), .int mones, .int mtwos, .int mgone, .ref (n 16), .ref (n 17), .int mroundNow, .ref (n 18), .long msampleFor, .long msampleAll, .ref (n 19), .int maskWorst, .long moftenAll, .long moftenView, .long moftenOnes, .ref (n 20), .ref (n 21), .ref (n 22), .ref (n 23)])), ((n 20), .inl (k 0, 4, .inl (u.2.2.1 0))), ((n 21), .inl (k 0, 4, .inl (u.2.2.1 1))), ((n 22), .inl (k 2, 240, .inr (.inl (u.2.2.2.1 0))))])) := by
  refine MU.of (by decide) (Nat.le_of_ble_eq_true rfl) ?_
  intro p e s m below meth c ls A args Q S hr hlk hnm hQ hK hP hD hZ hA hS hl
  have hx := S.1
  have hb := S.2.1
  have hl : lv_has ls 5 [(0, .ref (n 0)), (1, .int p0), (2, .int p1), (3, .int p2)] := hl
  refine lv_iload_n hx hb dX11_row_0 rfl (lv_at hl 1 rfl) ?_
  refine x_roSi (As := [.int p0]) S hK hP hD hZ (fun _ h => h) hA hS hA hl mwX11_isSlot lkX11_425 (ctX11_isSlot l D k z p0 ) [] rfl (by decide) rfl rfl ⟨Nat.le_of_ble_eq_true rfl, Nat.le_of_ble_eq_true rfl, Nat.le_of_ble_eq_true rfl⟩ dX11_row_1 ⟨Nat.le_of_ble_eq_true rfl, Nat.le_of_ble_eq_true rfl⟩ (fun r_1 H locs hr_1 hP hS => ?_)
  obtain rfl := hr_1
  refine lv_if_eq (tgt := 25) hx hb dX11_row_4 (by decide) (fun c_3 => ?_) (fun c_3 => ?_)
  · skip
    have c_3 : ¬ (0 ≤ p0.toInt64 ∧ p0.toInt64 ≤ 3) := bo_0.mp c_3
    refine lv_bipush (v := (-2)) hx hb dX11_row_25 (by decide) ?_
    exact x_reti S hr hlk hQ hS ((fun i => ([] : List (Int32)).getD i 0), (fun i => ([] : List (Nat)).getD i 0), (fun i => ([fmany, fwidth] : List (Nat → Int32)).getD i (fun _ => 0)), (fun i => ([fnumbers] : List (Nat → Int64)).getD i (fun _ => 0)), (fun i => ([] : List (Int64)).getD i 0)) ⟨(lfctX11_row_0 p0 p1 p2 c_3), hkmany, (rowL_n (lfctX11_row_0 p0 p1 p2 c_3) (by decide)), (rowW_n (lfctX11_row_0 p0 p1 p2 c_3) (by decide))⟩ (x_B hP hD) dX11_row_27
  · skip
    have c_3 : 0 ≤ p0.toInt64 ∧ p0.toInt64 ≤ 3 := bo_1.mp c_3
    refine lv_iload_n hx hb dX11_row_7 rfl (lv_at hl 2 rfl) ?_
    refine lv_i2l (v := p1.toInt64) hx hb dX11_row_8 rfl ?_
    refine lv_lconst (v := 0) hx hb dX11_row_9 (by decide) ?_
    refine lv_ldc2 hx hb S.2.2.2.1 (S.2.2.2.2 _ lkX11_241) dX11_row_10 ?_
    refine x_roSi (As := [.long p1.toInt64, .long 0, .long 3]) S hK hP hD hZ (fun _ h => h) hA hS hA hl mwX11_in lkX11_91 (ctX11_in l D k z p1.toInt64 0 3 ) [] rfl (by decide) rfl rfl ⟨Nat.le_of_ble_eq_true rfl, Nat.le_of_ble_eq_true rfl, Nat.le_of_ble_eq_true rfl⟩ dX11_row_13 ⟨Nat.le_of_ble_eq_true rfl, Nat.le_of_ble_eq_true rfl⟩ (fun r_4 H locs hr_4 hP hS => ?_)
    obtain rfl := hr_4
    refine lv_if_eq (tgt := 25) hx hb dX11_row_16 (by decide) (fun c_6 => ?_) (fun c_6 => ?_)
    · skip
      have c_6 : ¬ (0 ≤ p1.toInt64 ∧ p1.toInt64 ≤ 3) := bo_0.mp c_6
      refine lv_bipush (v := (-2)) hx hb dX11_row_25 (by decide) ?_
      exact x_reti S hr hlk hQ hS ((fun i => ([] : List (Int32)).getD i 0), (fun i => ([] : List (Nat)).getD i 0), (fun i => ([fmany, fwidth] : List (Nat → Int32)).getD i (fun _ => 0)), (fun i => ([fnumbers] : List (Nat → Int64)).getD i (fun _ => 0)), (fun i => ([] : List (Int64)).getD i 0)) ⟨(lfctX11_row_1 p0 p1 p2 c_3 c_6), hkmany, (rowL_n (lfctX11_row_1 p0 p1 p2 c_3 c_6) (by decide)), (rowW_n (lfctX11_row_1 p0 p1 p2 c_3 c_6) (by decide))⟩ (x_B hP hD) dX11_row_27
    · skip
      have c_6 : 0 ≤ p1.toInt64 ∧ p1.toInt64 ≤ 3 := bo_1.mp c_6
      refine lv_iload_n hx hb dX11_row_19 rfl (lv_at hl 3 rfl) ?_
      refine lv_bipush (v := 60) hx hb dX11_row_20 (by decide) ?_
      refine lv_icmp_le (tgt := 28) hx hb dX11_row_22 (by decide) (fun c_7 => ?_) (fun c_7 => ?_)
      · skip
        refine lv_iload_n hx hb dX11_row_28 rfl (lv_at hl 3 rfl) ?_
        refine lv_if_ge (tgt := 35) hx hb dX11_row_29 (by decide) (fun c_8 => ?_) (fun c_8 => ?_)
        · skip
          obtain ⟨kj, hkj, ekj⟩ : ∃ kj : Nat, kj < 3 + 1 ∧ p0 = nI kj := nat64g c_3 (by decide) (b := 3) (by decide)
          have hl : lv_has ls 5 [(0, .ref (n 0)), (1, .int (nI kj)), (2, .int p1), (3, .int p2)] := by rw [ekj] at hl; exact hl
          obtain ⟨kn, hkn, ekn⟩ : ∃ kn : Nat, kn < 60 + 1 ∧ p2 = nI kn := nat_in (Int32.not_lt.mpr c_8) c_7 (by decide) (by omega)
          have hl : lv_has ls 5 [(0, .ref (n 0)), (1, .int (nI kj)), (2, .int p1), (3, .int (nI kn))] := by rw [ekn] at hl; exact hl
          refine lv_aload_n hx hb dX11_row_35 rfl (lv_at hl 0 rfl) ?_
          refine x_get S hK hP 0 rfl cfX11 42 lkX11_73 (by decide) rfl dX11_row_36 ?_
          refine lv_iload_n hx hb dX11_row_39 rfl (lv_at hl 1 rfl) ?_
          refine lv_iload_n hx hb dX11_row_40 rfl (lv_at hl 3 rfl) ?_
          refine x_iast (ws' := fun f_9 => [((n 0), .inr (11, [.int mthrown, .ref (n 1), .ref (n 2), .ref (n 3), .ref (n 4), .int (nI mtaped), .ref (n 5), .int (nI msize), .int (nI mat), .int (nI mfrom), .int mtoken, .int mvalue, .int mfaultKind, .int mfaultPlace, .ref (n 6), .ref (n 7), .ref (n 8), .ref (n 9), .ref (n 10), .ref (n 11), .ref (n 12), .int (nI mmoreMany), .int mlawNow, .int mwetSet, .int moverAll, .ref (n 13), .ref (n 14), .ref (n 15), .int mones, .int mtwos, .int mgone, .ref (n 16), .ref (n 17), .int mroundNow, .ref (n 18), .long msampleFor, .long msampleAll, .ref (n 19), .int maskWorst, .long moftenAll, .long moftenView, .long moftenOnes, .ref (n 20), .ref (n 21), .ref (n 22), .ref (n 23)])), ((n 20), .inl (k 0, 4, .inl f_9)), ((n 21), .inl (k 0, 4, .inl fwidth)), ((n 22), .inl (k 2, 240, .inr (.inl fnumbers)))]) S hK hP hD hS 1 rfl (vp_in_nI (by omega) (by decide)) (fun _ => rfl) dX11_row_41 (fun f_9 H locs ef_9 hP hD hS => ?_)
          have hif_9 : okL f_9 := okL_up ef_9 hkmany (q := kn) rfl (by omega)
          refine lv_aload_n hx hb dX11_row_42 rfl (lv_at hl 0 rfl) ?_
          refine x_get S hK hP 0 rfl cfX11 43 lkX11_76 (by decide) rfl dX11_row_43 ?_
          refine lv_iload_n hx hb dX11_row_46 rfl (lv_at hl 1 rfl) ?_
          refine lv_iload_n hx hb dX11_row_47 rfl (lv_at hl 2 rfl) ?_
          refine x_iast (ws' := fun f_10 => [((n 0), .inr (11, [.int mthrown, .ref (n 1), .ref (n 2), .ref (n 3), .ref (n 4), .int (nI mtaped), .ref (n 5), .int (nI msize), .int (nI mat), .int (nI mfrom), .int mtoken, .int mvalue, .int mfaultKind, .int mfaultPlace, .ref (n 6), .ref (n 7), .ref (n 8), .ref (n 9), .ref (n 10), .ref (n 11), .ref (n 12), .int (nI mmoreMany), .int mlawNow, .int mwetSet, .int moverAll, .ref (n 13), .ref (n 14), .ref (n 15), .int mones, .int mtwos, .int mgone, .ref (n 16), .ref (n 17), .int mroundNow, .ref (n 18), .long msampleFor, .long msampleAll, .ref (n 19), .int maskWorst, .long moftenAll, .long moftenView, .long moftenOnes, .ref (n 20), .ref (n 21), .ref (n 22), .ref (n 23)])), ((n 20), .inl (k 0, 4, .inl f_9)), ((n 21), .inl (k 0, 4, .inl f_10)), ((n 22), .inl (k 2, 240, .inr (.inl fnumbers)))]) S hK hP hD hS 2 rfl (vp_in_nI (by omega) (by decide)) (fun _ => rfl) dX11_row_48 (fun f_10 H locs ef_10 hP hD hS => ?_)
          refine lv_iconst (v := 0) hx hb dX11_row_49 (by decide) ?_
          refine lv_istore (lv' := [(4, .int 0), (0, .ref (n 0)), (1, .int (nI kj)), (2, .int p1), (3, .int (nI kn))]) hx hb dX11_row_50 hl (by decide) rfl (fun ls hl => ?_)
          have lp_21 : ∀ (nn j_19 : Nat) (g_20 : Nat → Int64) (H : Heap) (locs : List Loc) (ls : Array Slot), j_19 ≤ 60 → 60 - j_19 < nn → va_P D vwCl [((n 0), .inr (11, [.int mthrown, .ref (n 1), .ref (n 2), .ref (n 3), .ref (n 4), .int (nI mtaped), .ref (n 5), .int (nI msize), .int (nI mat), .int (nI mfrom), .int mtoken, .int mvalue, .int mfaultKind, .int mfaultPlace, .ref (n 6), .ref (n 7), .ref (n 8), .ref (n 9), .ref (n 10), .ref (n 11), .ref (n 12), .int (nI mmoreMany), .int mlawNow, .int mwetSet, .int moverAll, .ref (n 13), .ref (n 14), .ref (n 15), .int mones, .int mtwos, .int mgone, .ref (n 16), .ref (n 17), .int mroundNow, .ref (n 18), .long msampleFor, .long msampleAll, .ref (n 19), .int maskWorst, .long moftenAll, .long moftenView, .long moftenOnes, .ref (n 20), .ref (n 21), .ref (n 22), .ref (n 23)])), ((n 20), .inl (k 0, 4, .inl f_9)), ((n 21), .inl (k 0, 4, .inl f_10)), ((n 22), .inl (k 2, 240, .inr (.inl g_20)))] H → va_D A [((n 0), .inr (11, [.int mthrown, .ref (n 1), .ref (n 2), .ref (n 3), .ref (n 4), .int (nI mtaped), .ref (n 5), .int (nI msize), .int (nI mat), .int (nI mfrom), .int mtoken, .int mvalue, .int mfaultKind, .int mfaultPlace, .ref (n 6), .ref (n 7), .ref (n 8), .ref (n 9), .ref (n 10), .ref (n 11), .ref (n 12), .int (nI mmoreMany), .int mlawNow, .int mwetSet, .int moverAll, .ref (n 13), .ref (n 14), .ref (n 15), .int mones, .int mtwos, .int mgone, .ref (n 16), .ref (n 17), .int mroundNow, .ref (n 18), .long msampleFor, .long msampleAll, .ref (n 19), .int maskWorst, .long moftenAll, .long moftenView, .long moftenOnes, .ref (n 20), .ref (n 21), .ref (n 22), .ref (n 23)])), ((n 20), .inl (k 0, 4, .inl f_9)), ((n 21), .inl (k 0, 4, .inl f_10)), ((n 22), .inl (k 2, 240, .inr (.inl g_20)))] → va_S A s.heap H locs → lv_has ls 5 [(4, .int (nI j_19)), (0, .ref (n 0)), (1, .int (nI kj)), (2, .int p1), (3, .int (nI kn))] → W p l e (Rm 2 0 0) s m args below meth c H locs 0 0 Q (F0 m 52 ls []) := by
            intro nn
            induction nn with
            | zero => intro j_19 g_20 H locs ls hjj_19 hnj_19; exact absurd hnj_19 (by omega)
            | succ nn ihj_19 =>
              intro j_19 g_20 H locs ls hjj_19 hnj_19 hP hD hS hl
              refine lv_iload hx hb dX11_row_52 (lv_at hl 0 rfl) ?_
              refine lv_bipush (v := 60) hx hb dX11_row_54 (by decide) ?_
              refine lv_icmp_ge (tgt := 78) hx hb dX11_row_56 (by decide) (fun c_22 => ?_) (fun c_22 => ?_)
              · skip
                have c_22 : 60 ≤ j_19 := (ni_le (by decide) rfl (by omega) (by omega)).mp c_22
                refine lv_iconst (v := 0) hx hb dX11_row_78 (by decide) ?_
                exact x_reti S hr hlk hQ hS ((fun i => ([] : List (Int32)).getD i 0), (fun i => ([] : List (Nat)).getD i 0), (fun i => ([f_9, f_10] : List (Nat → Int32)).getD i (fun _ => 0)), (fun i => ([g_20] : List (Nat → Int64)).getD i (fun _ => 0)), (fun i => ([] : List (Int64)).getD i 0)) ⟨(lfctX11_row_2 p0 p1 p2 c_3 c_6 c_7 c_8), hif_9, ((ef_9.trans (upd_cl rfl (by omega))).trans (rowL_y (lfctX11_row_2 p0 p1 p2 c_3 c_6 c_7 c_8) ekj (by omega) ekn)), ((ef_10.trans (upd_cl rfl (by omega))).trans (rowW_y (lfctX11_row_2 p0 p1 p2 c_3 c_6 c_7 c_8) ekj (by omega)))⟩ (x_B hP hD) dX11_row_79
              · skip
                have c_22 : ¬ 60 ≤ j_19 := fun q => c_22 ((ni_le (by decide) rfl (by omega) (by omega)).mpr q)
                refine lv_aload_n hx hb dX11_row_59 rfl (lv_at hl 1 rfl) ?_
                refine x_get S hK hP 0 rfl cfX11 44 lkX11_79 (by decide) rfl dX11_row_60 ?_
                refine lv_bipush (v := 60) hx hb dX11_row_63 (by decide) ?_
                refine lv_iload_n hx hb dX11_row_65 rfl (lv_at hl 2 rfl) ?_
                refine lv_imul hx hb dX11_row_66 ?_
                refine x_is (nI (60 * kj)) (ni_mul (by decide) rfl) ?_
                refine lv_iload hx hb dX11_row_67 (lv_at hl 0 rfl) ?_
                refine lv_iadd hx hb dX11_row_69 ?_
                refine x_is (nI (60 * kj + j_19)) (ni_add rfl rfl) ?_
                refine lv_lconst (v := 0) hx hb dX11_row_70 (by decide) ?_
                refine x_last (ws' := fun f_23 => [((n 0), .inr (11, [.int mthrown, .ref (n 1), .ref (n 2), .ref (n 3), .ref (n 4), .int (nI mtaped), .ref (n 5), .int (nI msize), .int (nI mat), .int (nI mfrom), .int mtoken, .int mvalue, .int mfaultKind, .int mfaultPlace, .ref (n 6), .ref (n 7), .ref (n 8), .ref (n 9), .ref (n 10), .ref (n 11), .ref (n 12), .int (nI mmoreMany), .int mlawNow, .int mwetSet, .int moverAll, .ref (n 13), .ref (n 14), .ref (n 15), .int mones, .int mtwos, .int mgone, .ref (n 16), .ref (n 17), .int mroundNow, .ref (n 18), .long msampleFor, .long msampleAll, .ref (n 19), .int maskWorst, .long moftenAll, .long moftenView, .long moftenOnes, .ref (n 20), .ref (n 21), .ref (n 22), .ref (n 23)])), ((n 20), .inl (k 0, 4, .inl f_9)), ((n 21), .inl (k 0, 4, .inl f_10)), ((n 22), .inl (k 2, 240, .inr (.inl f_23)))]) S hK hP hD hS 3 rfl (vp_in_nI (by omega) (by decide)) (fun _ => rfl) dX11_row_71 (fun f_23 H locs ef_23 hP hD hS => ?_)
                refine lv_iinc (v := (nI (j_19 + 1))) (lv' := [(4, .int (nI (j_19 + 1))), (0, .ref (n 0)), (1, .int (nI kj)), (2, .int p1), (3, .int (nI kn))]) hx hb dX11_row_72 hl (k := 0) rfl (ni_inc _) (by decide) rfl (fun ls hl => ?_)
                refine lv_goto (tgt := 52) hx hb dX11_row_75 (by decide) ?_
                exact ihj_19 (j_19 + 1) f_23 _ _ _ (by omega) (by omega) hP hD hS (lv_sub hl [0, 1, 2, 3, 4] rfl)
          exact lp_21 (60 + 1) 0 fnumbers _ _ _ (by omega) (by omega) hP hD hS (lv_sub hl [0, 1, 2, 3, 4] rfl)
        · skip
          refine lv_bipush (v := (-3)) hx hb dX11_row_32 (by decide) ?_
          exact x_reti S hr hlk hQ hS ((fun i => ([] : List (Int32)).getD i 0), (fun i => ([] : List (Nat)).getD i 0), (fun i => ([fmany, fwidth] : List (Nat → Int32)).getD i (fun _ => 0)), (fun i => ([fnumbers] : List (Nat → Int64)).getD i (fun _ => 0)), (fun i => ([] : List (Int64)).getD i 0)) ⟨(lfctX11_row_3 p0 p1 p2 c_3 c_6 c_7 c_8), hkmany, (rowL_n (lfctX11_row_3 p0 p1 p2 c_3 c_6 c_7 c_8) (by decide)), (rowW_n (lfctX11_row_3 p0 p1 p2 c_3 c_6 c_7 c_8) (by decide))⟩ (x_B hP hD) dX11_row_34
      · skip
        refine lv_bipush (v := (-2)) hx hb dX11_row_25 (by decide) ?_
        exact x_reti S hr hlk hQ hS ((fun i => ([] : List (Int32)).getD i 0), (fun i => ([] : List (Nat)).getD i 0), (fun i => ([fmany, fwidth] : List (Nat → Int32)).getD i (fun _ => 0)), (fun i => ([fnumbers] : List (Nat → Int64)).getD i (fun _ => 0)), (fun i => ([] : List (Int64)).getD i 0)) ⟨(lfctX11_row_4 p0 p1 p2 c_3 c_6 c_7), hkmany, (rowL_n (lfctX11_row_4 p0 p1 p2 c_3 c_6 c_7) (by decide)), (rowW_n (lfctX11_row_4 p0 p1 p2 c_3 c_6 c_7) (by decide))⟩ (x_B hP hD) dX11_row_27

set_option maxHeartbeats 4000000 in
set_option maxRecDepth 100000 in
theorem ctX11_write (l : Launch) (D : va_G) (k : Nat → ClassId) (z : Nat → Nat) (n : Nat → Nat) (mthrown : Int32) (mtaped : Nat) (msize : Nat) (mat : Nat) (mfrom : Nat) (mtoken : Int32) (mvalue : Int32) (mfaultKind : Int32) (mfaultPlace : Int32) (mmoreMany : Nat) (mlawNow : Int32) (mwetSet : Int32) (moverAll : Int32) (mones : Int32) (mtwos : Int32) (mgone : Int32) (mroundNow : Int32) (msampleFor : Int64) (msampleAll : Int64) (maskWorst : Int32) (moftenAll : Int64) (moftenView : Int64) (moftenOnes : Int64) (fmany : Nat → Int32) (fwidth : Nat → Int32) (fnumbers : Nat → Int64) (p0 : Int32) (p1 : Int32) (p2 : Int64) (hmtaped : mtaped ≤ 600) (hmsize : msize ≤ 600) (hmat : mat ≤ 600) (hmfrom : mfrom ≤ 600) (hmmoreMany : mmoreMany ≤ 14) (hkmany : okL fmany) : MU l yX11_write cX11_write 5 (some .int) 2 D k z [.ref (n 0), .int p0, .int p1, .long p2] [((n 0), .inr (11, [.int mthrown, .ref (n 1), .ref (n 2), .ref (n 3), .ref (n 4), .int (nI mtaped), .ref (n 5), .int (nI msize), .int (nI mat), .int (nI mfrom), .int mtoken, .int mvalue, .int mfaultKind, .int mfaultPlace, .ref (n 6), .ref (n 7), .ref (n 8), .ref (n 9), .ref (n 10), .ref (n 11), .ref (n 12), .int (nI mmoreMany), .int mlawNow, .int mwetSet, .int moverAll, .ref (n 13), .ref (n 14), .ref (n 15), .int mones, .int mtwos, .int mgone, .ref (n 16), .ref (n 17), .int mroundNow, .ref (n 18), .long msampleFor, .long msampleAll, .ref (n 19), .int maskWorst, .long moftenAll, .long moftenView, .long moftenOnes, .ref (n 20), .ref (n 21), .ref (n 22), .ref (n 23)])), ((n 20), .inl (k 0, 4, .inl fmany)), ((n 21), .inl (k 0, 4, .inl fwidth)), ((n 22), .inl (k 2, 240, .inr (.inl fnumbers)))] 0 0 (Ui D (fun (r : Int32) (u : (Nat → Int32) × (Nat → Nat) × (Nat → Nat → Int32) × (Nat → Nat → Int64) × (Nat → Int64)) => (r = (ansWrite fmany p0 p1))) (fun u : (Nat → Int32) × (Nat → Nat) × (Nat → Nat → Int32) × (Nat → Nat → Int64) × (Nat → Int64) => [((n 0), .inr (11, [.int mthrown, .ref (n 1), .ref (n 2), .ref (n 3), .ref (n 4), .int (nI mtaped), .ref (n 5), .int (nI msize), .int (nI mat), .int (nI mfrom), .int mtoken, .int mvalue, .int mfaultKind, .int mfaultPlace, .ref (n 6), .ref (n 7), .ref (n 8), .ref (n 9), .ref (n 10), .ref (n 11), .ref (n 12), .int (nI mmoreMany), .int mlawNow, .int mwetSet, .int moverAll, .ref (n 13), .ref (n 14), .ref (n 15), .int mones, .int mtwos, .int mgone, .ref (n 16), .ref (n 17), .int mroundNow, .ref (n 18), .long msampleFor, .long msampleAll, .ref (n 19), .int maskWorst, .long moftenAll, .long moftenView, .long moftenOnes, .ref (n 20), .ref (n 21), .ref (n 22), .ref (n 23)])), ((n 20), .inl (k 0, 4, .inl fmany)), ((n 21), .inl (k 0, 4, .inl fwidth)), ((n 22), .inl (k 2, 240, .inr (.inl (u.2.2.2.1 0))))])) := by
  refine MU.of (by decide) (Nat.le_of_ble_eq_true rfl) ?_
  intro p e s m below meth c ls A args Q S hr hlk hnm hQ hK hP hD hZ hA hS hl
  have hx := S.1
  have hb := S.2.1
  have hl : lv_has ls 5 [(0, .ref (n 0)), (1, .int p0), (2, .int p1), (3, .long p2)] := hl
  refine lv_iload_n hx hb dX11_write_0 rfl (lv_at hl 1 rfl) ?_
  refine x_roSi (As := [.int p0]) S hK hP hD hZ (fun _ h => h) hA hS hA hl mwX11_isSlot lkX11_425 (ctX11_isSlot l D k z p0 ) [] rfl (by decide) rfl rfl ⟨Nat.le_of_ble_eq_true rfl, Nat.le_of_ble_eq_true rfl, Nat.le_of_ble_eq_true rfl⟩ dX11_write_1 ⟨Nat.le_of_ble_eq_true rfl, Nat.le_of_ble_eq_true rfl⟩ (fun r_1 H locs hr_1 hP hS => ?_)
  obtain rfl := hr_1
  refine lv_if_ne (tgt := 10) hx hb dX11_write_4 (by decide) (fun c_3 => ?_) (fun c_3 => ?_)
  · skip
    have c_3 : 0 ≤ p0.toInt64 ∧ p0.toInt64 ≤ 3 := bo_1.mp c_3
    obtain ⟨kj, hkj, ekj⟩ : ∃ kj : Nat, kj < 3 + 1 ∧ p0 = nI kj := nat64g c_3 (by decide) (b := 3) (by decide)
    have hl : lv_has ls 5 [(0, .ref (n 0)), (1, .int (nI kj)), (2, .int p1), (3, .long p2)] := by rw [ekj] at hl; exact hl
    refine lv_aload_n hx hb dX11_write_10 rfl (lv_at hl 0 rfl) ?_
    refine x_get S hK hP 0 rfl cfX11 42 lkX11_73 (by decide) rfl dX11_write_11 ?_
    refine lv_iload_n hx hb dX11_write_14 rfl (lv_at hl 1 rfl) ?_
    refine x_iald S hK hP 1 rfl (vp_in_nI (by omega) (by decide)) dX11_write_15 ?_
    rcases hkmany kj (by omega) with e_4 | ⟨n_5, e_4, hn_5⟩
    · skip
      refine x_is (-1) ((cl_at (f := fmany) (a := kj) rfl (by omega)).trans e_4) ?_
      refine lv_iconst (v := (-1)) hx hb dX11_write_16 (by decide) ?_
      refine lv_icmp_ne (tgt := 23) hx hb dX11_write_17 (by decide) (fun c_6 => absurd (by decide) c_6) (fun c_6 => ?_)
      refine lv_bipush (v := (-6)) hx hb dX11_write_20 (by decide) ?_
      exact x_reti S hr hlk hQ hS ((fun i => ([] : List (Int32)).getD i 0), (fun i => ([] : List (Nat)).getD i 0), (fun i => ([] : List (Nat → Int32)).getD i (fun _ => 0)), (fun i => ([fnumbers] : List (Nat → Int64)).getD i (fun _ => 0)), (fun i => ([] : List (Int64)).getD i 0)) (awr_6 ekj (by omega) e_4) (x_B hP hD) dX11_write_22
    · skip
      refine x_is (nI n_5) ((cl_at (f := fmany) (a := kj) rfl (by omega)).trans e_4) ?_
      refine lv_iconst (v := (-1)) hx hb dX11_write_16 (by decide) ?_
      refine lv_icmp_ne (tgt := 23) hx hb dX11_write_17 (by decide) (fun c_7 => ?_) (fun c_7 => absurd c_7 (i32_ne (ni_gtn (a := n_5) rfl (by omega) (y := (-1)) (by decide))))
      refine lv_iload_n hx hb dX11_write_23 rfl (lv_at hl 2 rfl) ?_
      refine lv_i2l (v := p1.toInt64) hx hb dX11_write_24 rfl ?_
      refine lv_lconst (v := 0) hx hb dX11_write_25 (by decide) ?_
      refine lv_aload_n hx hb dX11_write_26 rfl (lv_at hl 0 rfl) ?_
      refine x_get S hK hP 0 rfl cfX11 42 lkX11_73 (by decide) rfl dX11_write_27 ?_
      refine lv_iload_n hx hb dX11_write_30 rfl (lv_at hl 1 rfl) ?_
      refine x_iald S hK hP 1 rfl (vp_in_nI (by omega) (by decide)) dX11_write_31 ?_
      refine x_is (nI n_5) ((cl_at (f := fmany) (a := kj) rfl (by omega)).trans e_4) ?_
      refine lv_iconst (v := 1) hx hb dX11_write_32 (by decide) ?_
      refine lv_isub hx hb dX11_write_33 ?_
      refine lv_topi (fun v_8 ev_8 => ?_)
      refine lv_i2l (v := v_8.toInt64) hx hb dX11_write_34 rfl ?_
      refine x_roSi (As := [.long p1.toInt64, .long 0, .long v_8.toInt64]) S hK hP hD hZ (fun _ h => h) hA hS hA hl mwX11_in lkX11_91 (ctX11_in l D k z p1.toInt64 0 v_8.toInt64 ) [] rfl (by decide) rfl rfl ⟨Nat.le_of_ble_eq_true rfl, Nat.le_of_ble_eq_true rfl, Nat.le_of_ble_eq_true rfl⟩ dX11_write_35 ⟨Nat.le_of_ble_eq_true rfl, Nat.le_of_ble_eq_true rfl⟩ (fun r_9 H locs hr_9 hP hS => ?_)
      obtain rfl := hr_9
      refine lv_if_ne (tgt := 44) hx hb dX11_write_38 (by decide) (fun c_11 => ?_) (fun c_11 => ?_)
      · skip
        have c_11 : 0 ≤ p1.toInt64 ∧ p1.toInt64 ≤ v_8.toInt64 := bo_1.mp c_11
        obtain ⟨ki, hki, eki⟩ : ∃ ki : Nat, ki < n_5 ∧ p1 = nI ki := nat64s c_11 ev_8 (by omega)
        have hl : lv_has ls 5 [(0, .ref (n 0)), (1, .int (nI kj)), (2, .int (nI ki)), (3, .long p2)] := by rw [eki] at hl; exact hl
        refine lv_aload_n hx hb dX11_write_44 rfl (lv_at hl 0 rfl) ?_
        refine x_get S hK hP 0 rfl cfX11 44 lkX11_79 (by decide) rfl dX11_write_45 ?_
        refine lv_bipush (v := 60) hx hb dX11_write_48 (by decide) ?_
        refine lv_iload_n hx hb dX11_write_50 rfl (lv_at hl 1 rfl) ?_
        refine lv_imul hx hb dX11_write_51 ?_
        refine x_is (nI (60 * kj)) (ni_mul (by decide) rfl) ?_
        refine lv_iload_n hx hb dX11_write_52 rfl (lv_at hl 2 rfl) ?_
        refine lv_iadd hx hb dX11_write_53 ?_
        refine x_is (nI (60 * kj + ki)) (ni_add rfl rfl) ?_
        refine lv_lload_n hx hb dX11_write_54 rfl (lv_at hl 3 rfl) ?_
        refine lv_aload_n hx hb dX11_write_55 rfl (lv_at hl 0 rfl) ?_
        refine x_get S hK hP 0 rfl cfX11 43 lkX11_76 (by decide) rfl dX11_write_56 ?_
        refine lv_iload_n hx hb dX11_write_59 rfl (lv_at hl 1 rfl) ?_
        refine x_iald S hK hP 2 rfl (vp_in_nI (by omega) (by decide)) dX11_write_60 ?_
        refine lv_topi (fun v_12 ev_12 => ?_)
        refine x_roSl (As := [.long p2, .int v_12]) S hK hP hD hZ (fun _ h => h) hA hS hA hl mwX11_clipped lkX11_511 (ctX11_clipped l D k z p2 v_12 ) [] rfl (by decide) rfl rfl ⟨Nat.le_of_ble_eq_true rfl, Nat.le_of_ble_eq_true rfl, Nat.le_of_ble_eq_true rfl⟩ dX11_write_61 ⟨Nat.le_of_ble_eq_true rfl, Nat.le_of_ble_eq_true rfl⟩ (fun r_13 H locs hr_13 hP hS => ?_)
        refine x_last (ws' := fun f_15 => [((n 0), .inr (11, [.int mthrown, .ref (n 1), .ref (n 2), .ref (n 3), .ref (n 4), .int (nI mtaped), .ref (n 5), .int (nI msize), .int (nI mat), .int (nI mfrom), .int mtoken, .int mvalue, .int mfaultKind, .int mfaultPlace, .ref (n 6), .ref (n 7), .ref (n 8), .ref (n 9), .ref (n 10), .ref (n 11), .ref (n 12), .int (nI mmoreMany), .int mlawNow, .int mwetSet, .int moverAll, .ref (n 13), .ref (n 14), .ref (n 15), .int mones, .int mtwos, .int mgone, .ref (n 16), .ref (n 17), .int mroundNow, .ref (n 18), .long msampleFor, .long msampleAll, .ref (n 19), .int maskWorst, .long moftenAll, .long moftenView, .long moftenOnes, .ref (n 20), .ref (n 21), .ref (n 22), .ref (n 23)])), ((n 20), .inl (k 0, 4, .inl fmany)), ((n 21), .inl (k 0, 4, .inl fwidth)), ((n 22), .inl (k 2, 240, .inr (.inl f_15)))]) S hK hP hD hS 3 rfl (vp_in_nI (by omega) (by decide)) (fun _ => rfl) dX11_write_64 (fun f_15 H locs ef_15 hP hD hS => ?_)
        refine lv_iconst (v := 0) hx hb dX11_write_65 (by decide) ?_
        exact x_reti S hr hlk hQ hS ((fun i => ([] : List (Int32)).getD i 0), (fun i => ([] : List (Nat)).getD i 0), (fun i => ([] : List (Nat → Int32)).getD i (fun _ => 0)), (fun i => ([f_15] : List (Nat → Int64)).getD i (fun _ => 0)), (fun i => ([] : List (Int64)).getD i 0)) (awr_0 ekj (by omega) (ni_nem e_4 (by omega)) ((wr_iff ev_8 e_4 (by omega)).mp c_11)) (x_B hP hD) dX11_write_66
      · skip
        have c_11 : ¬ (0 ≤ p1.toInt64 ∧ p1.toInt64 ≤ v_8.toInt64) := bo_0.mp c_11
        refine lv_bipush (v := (-7)) hx hb dX11_write_41 (by decide) ?_
        exact x_reti S hr hlk hQ hS ((fun i => ([] : List (Int32)).getD i 0), (fun i => ([] : List (Nat)).getD i 0), (fun i => ([] : List (Nat → Int32)).getD i (fun _ => 0)), (fun i => ([fnumbers] : List (Nat → Int64)).getD i (fun _ => 0)), (fun i => ([] : List (Int64)).getD i 0)) (awr_7 ekj (by omega) (ni_nem e_4 (by omega)) (Classical.byContradiction (fun z => c_11 ((wr_iff ev_8 e_4 (by omega)).mpr z)))) (x_B hP hD) dX11_write_43
  · skip
    have c_3 : ¬ (0 ≤ p0.toInt64 ∧ p0.toInt64 ≤ 3) := bo_0.mp c_3
    refine lv_bipush (v := (-2)) hx hb dX11_write_7 (by decide) ?_
    exact x_reti S hr hlk hQ hS ((fun i => ([] : List (Int32)).getD i 0), (fun i => ([] : List (Nat)).getD i 0), (fun i => ([] : List (Nat → Int32)).getD i (fun _ => 0)), (fun i => ([fnumbers] : List (Nat → Int64)).getD i (fun _ => 0)), (fun i => ([] : List (Int64)).getD i 0)) (awr_2 (fun q => c_3 (i64_3.mpr q))) (x_B hP hD) dX11_write_9

set_option maxHeartbeats 4000000 in
set_option maxRecDepth 100000 in
theorem ctX11_paste (l : Launch) (D : va_G) (k : Nat → ClassId) (z : Nat → Nat) (n : Nat → Nat) (mthrown : Int32) (mtaped : Nat) (msize : Nat) (mat : Nat) (mfrom : Nat) (mtoken : Int32) (mvalue : Int32) (mfaultKind : Int32) (mfaultPlace : Int32) (mmoreMany : Nat) (mlawNow : Int32) (mwetSet : Int32) (moverAll : Int32) (mones : Int32) (mtwos : Int32) (mgone : Int32) (mroundNow : Int32) (msampleFor : Int64) (msampleAll : Int64) (maskWorst : Int32) (moftenAll : Int64) (moftenView : Int64) (moftenOnes : Int64) (fmany : Nat → Int32) (fwidth : Nat → Int32) (fnumbers : Nat → Int64) (fmoving : Nat → Int64) (p0 : Int32) (p1 : Int32) (p2 : Int32) (p3 : Int32) (p4 : Int32) (hmtaped : mtaped ≤ 600) (hmsize : msize ≤ 600) (hmat : mat ≤ 600) (hmfrom : mfrom ≤ 600) (hmmoreMany : mmoreMany ≤ 14) (hkmany : okL fmany) : MU l yX11_paste cX11_paste 7 (some .int) 2 D k z [.ref (n 0), .int p0, .int p1, .int p2, .int p3, .int p4] [((n 0), .inr (11, [.int mthrown, .ref (n 1), .ref (n 2), .ref (n 3), .ref (n 4), .int (nI mtaped), .ref (n 5), .int (nI msize), .int (nI mat), .int (nI mfrom), .int mtoken, .int mvalue, .int mfaultKind, .int mfaultPlace, .ref (n 6), .ref (n 7), .ref (n 8), .ref (n 9), .ref (n 10), .ref (n 11), .ref (n 12), .int (nI mmoreMany), .int mlawNow, .int mwetSet, .int moverAll, .ref (n 13), .ref (n 14), .ref (n 15), .int mones, .int mtwos, .int mgone, .ref (n 16), .ref (n 17), .int mroundNow, .ref (n 18), .long msampleFor, .long msampleAll, .ref (n 19), .int maskWorst, .long moftenAll, .long moftenView, .long moftenOnes, .ref (n 20), .ref (n 21), .ref (n 22), .ref (n 23)])), ((n 20), .inl (k 0, 4, .inl fmany)), ((n 21), .inl (k 0, 4, .inl fwidth)), ((n 22), .inl (k 2, 240, .inr (.inl fnumbers))), ((n 23), .inl (k 2, 60, .inr (.inl fmoving)))] 0 0 (Ui D (fun (r : Int32) (u : (Nat → Int32) × (Nat → Nat) × (Nat → Nat → Int32) × (Nat → Nat → Int64) × (Nat → Int64)) => (r = (ansPaste fmany fwidth p0 p1 p2 p3 p4))) (fun u : (Nat → Int32) × (Nat → Nat) × (Nat → Nat → Int32) × (Nat → Nat → Int64) × (Nat → Int64) => [((n 0), .inr (11, [.int mthrown, .ref (n 1), .ref (n 2), .ref (n 3), .ref (n 4), .int (nI mtaped), .ref (n 5), .int (nI msize), .int (nI mat), .int (nI mfrom), .int mtoken, .int mvalue, .int mfaultKind, .int mfaultPlace, .ref (n 6), .ref (n 7), .ref (n 8), .ref (n 9), .ref (n 10), .ref (n 11), .ref (n 12), .int (nI mmoreMany), .int mlawNow, .int mwetSet, .int moverAll, .ref (n 13), .ref (n 14), .ref (n 15), .int mones, .int mtwos, .int mgone, .ref (n 16), .ref (n 17), .int mroundNow, .ref (n 18), .long msampleFor, .long msampleAll, .ref (n 19), .int maskWorst, .long moftenAll, .long moftenView, .long moftenOnes, .ref (n 20), .ref (n 21), .ref (n 22), .ref (n 23)])), ((n 20), .inl (k 0, 4, .inl fmany)), ((n 21), .inl (k 0, 4, .inl fwidth)), ((n 22), .inl (k 2, 240, .inr (.inl (u.2.2.2.1 0)))), ((n 23), .inl (k 2, 60, .inr (.inl (u.2.2.2.1 1))))])) := by
  refine MU.of (by decide) (Nat.le_of_ble_eq_true rfl) ?_
  intro p e s m below meth c ls A args Q S hr hlk hnm hQ hK hP hD hZ hA hS hl
  have hx := S.1
  have hb := S.2.1
  have hl : lv_has ls 7 [(0, .ref (n 0)), (1, .int p0), (2, .int p1), (3, .int p2), (4, .int p3), (5, .int p4)] := hl
  refine lv_iload_n hx hb dX11_paste_0 rfl (lv_at hl 1 rfl) ?_
  refine x_roSi (As := [.int p0]) S hK hP hD hZ (fun _ h => h) hA hS hA hl mwX11_isSlot lkX11_425 (ctX11_isSlot l D k z p0 ) [] rfl (by decide) rfl rfl ⟨Nat.le_of_ble_eq_true rfl, Nat.le_of_ble_eq_true rfl, Nat.le_of_ble_eq_true rfl⟩ dX11_paste_1 ⟨Nat.le_of_ble_eq_true rfl, Nat.le_of_ble_eq_true rfl⟩ (fun r_1 H locs hr_1 hP hS => ?_)
  obtain rfl := hr_1
  refine lv_if_eq (tgt := 14) hx hb dX11_paste_4 (by decide) (fun c_3 => ?_) (fun c_3 => ?_)
  · skip
    have c_3 : ¬ (0 ≤ p0.toInt64 ∧ p0.toInt64 ≤ 3) := bo_0.mp c_3
    refine lv_bipush (v := (-2)) hx hb dX11_paste_14 (by decide) ?_
    exact x_reti S hr hlk hQ hS ((fun i => ([] : List (Int32)).getD i 0), (fun i => ([] : List (Nat)).getD i 0), (fun i => ([] : List (Nat → Int32)).getD i (fun _ => 0)), (fun i => ([fnumbers, fmoving] : List (Nat → Int64)).getD i (fun _ => 0)), (fun i => ([] : List (Int64)).getD i 0)) (apa_2a (fun q => c_3 (i64_3.mpr q))) (x_B hP hD) dX11_paste_16
  · skip
    have c_3 : 0 ≤ p0.toInt64 ∧ p0.toInt64 ≤ 3 := bo_1.mp c_3
    refine lv_iload_n hx hb dX11_paste_7 rfl (lv_at hl 3 rfl) ?_
    refine x_roSi (As := [.int p2]) S hK hP hD hZ (fun _ h => h) hA hS hA hl mwX11_isSlot lkX11_425 (ctX11_isSlot l D k z p2 ) [] rfl (by decide) rfl rfl ⟨Nat.le_of_ble_eq_true rfl, Nat.le_of_ble_eq_true rfl, Nat.le_of_ble_eq_true rfl⟩ dX11_paste_8 ⟨Nat.le_of_ble_eq_true rfl, Nat.le_of_ble_eq_true rfl⟩ (fun r_4 H locs hr_4 hP hS => ?_)
    obtain rfl := hr_4
    refine lv_if_ne (tgt := 17) hx hb dX11_paste_11 (by decide) (fun c_6 => ?_) (fun c_6 => ?_)
    · skip
      have c_6 : 0 ≤ p2.toInt64 ∧ p2.toInt64 ≤ 3 := bo_1.mp c_6
      obtain ⟨kj, hkj, ekj⟩ : ∃ kj : Nat, kj < 3 + 1 ∧ p0 = nI kj := nat64g c_3 (by decide) (b := 3) (by decide)
      have hl : lv_has ls 7 [(0, .ref (n 0)), (1, .int (nI kj)), (2, .int p1), (3, .int p2), (4, .int p3), (5, .int p4)] := by rw [ekj] at hl; exact hl
      obtain ⟨kt, hkt, ekt⟩ : ∃ kt : Nat, kt < 3 + 1 ∧ p2 = nI kt := nat64g c_6 (by decide) (b := 3) (by decide)
      have hl : lv_has ls 7 [(0, .ref (n 0)), (1, .int (nI kj)), (2, .int p1), (3, .int (nI kt)), (4, .int p3), (5, .int p4)] := by rw [ekt] at hl; exact hl
      refine lv_aload_n hx hb dX11_paste_17 rfl (lv_at hl 0 rfl) ?_
      refine x_get S hK hP 0 rfl cfX11 42 lkX11_73 (by decide) rfl dX11_paste_18 ?_
      refine lv_iload_n hx hb dX11_paste_21 rfl (lv_at hl 1 rfl) ?_
      refine x_iald S hK hP 1 rfl (vp_in_nI (by omega) (by decide)) dX11_paste_22 ?_
      rcases hkmany kj (by omega) with e_7 | ⟨n_8, e_7, hn_8⟩
      · skip
        refine x_is (-1) ((cl_at (f := fmany) (a := kj) rfl (by omega)).trans e_7) ?_
        refine lv_iconst (v := (-1)) hx hb dX11_paste_23 (by decide) ?_
        refine lv_icmp_eq (tgt := 37) hx hb dX11_paste_24 (by decide) (fun c_9 => ?_) (fun c_9 => absurd (by decide) c_9)
        refine lv_bipush (v := (-6)) hx hb dX11_paste_37 (by decide) ?_
        exact x_reti S hr hlk hQ hS ((fun i => ([] : List (Int32)).getD i 0), (fun i => ([] : List (Nat)).getD i 0), (fun i => ([] : List (Nat → Int32)).getD i (fun _ => 0)), (fun i => ([fnumbers, fmoving] : List (Nat → Int64)).getD i (fun _ => 0)), (fun i => ([] : List (Int64)).getD i 0)) (apa_6 ekj (by omega) ekt (by omega) (Or.inl e_7)) (x_B hP hD) dX11_paste_39
      · skip
        refine x_is (nI n_8) ((cl_at (f := fmany) (a := kj) rfl (by omega)).trans e_7) ?_
        refine lv_iconst (v := (-1)) hx hb dX11_paste_23 (by decide) ?_
        refine lv_icmp_eq (tgt := 37) hx hb dX11_paste_24 (by decide) (fun c_10 => absurd c_10 (i32_ne (ni_gtn (a := n_8) rfl (by omega) (y := (-1)) (by decide)))) (fun c_10 => ?_)
        refine lv_aload_n hx hb dX11_paste_27 rfl (lv_at hl 0 rfl) ?_
        refine x_get S hK hP 0 rfl cfX11 42 lkX11_73 (by decide) rfl dX11_paste_28 ?_
        refine lv_iload_n hx hb dX11_paste_31 rfl (lv_at hl 3 rfl) ?_
        refine x_iald S hK hP 1 rfl (vp_in_nI (by omega) (by decide)) dX11_paste_32 ?_
        rcases hkmany kt (by omega) with e_11 | ⟨n_12, e_11, hn_12⟩
        · skip
          refine x_is (-1) ((cl_at (f := fmany) (a := kt) rfl (by omega)).trans e_11) ?_
          refine lv_iconst (v := (-1)) hx hb dX11_paste_33 (by decide) ?_
          refine lv_icmp_ne (tgt := 40) hx hb dX11_paste_34 (by decide) (fun c_13 => absurd (by decide) c_13) (fun c_13 => ?_)
          refine lv_bipush (v := (-6)) hx hb dX11_paste_37 (by decide) ?_
          exact x_reti S hr hlk hQ hS ((fun i => ([] : List (Int32)).getD i 0), (fun i => ([] : List (Nat)).getD i 0), (fun i => ([] : List (Nat → Int32)).getD i (fun _ => 0)), (fun i => ([fnumbers, fmoving] : List (Nat → Int64)).getD i (fun _ => 0)), (fun i => ([] : List (Int64)).getD i 0)) (apa_6 ekj (by omega) ekt (by omega) (Or.inr e_11)) (x_B hP hD) dX11_paste_39
        · skip
          refine x_is (nI n_12) ((cl_at (f := fmany) (a := kt) rfl (by omega)).trans e_11) ?_
          refine lv_iconst (v := (-1)) hx hb dX11_paste_33 (by decide) ?_
          refine lv_icmp_ne (tgt := 40) hx hb dX11_paste_34 (by decide) (fun c_14 => ?_) (fun c_14 => absurd c_14 (i32_ne (ni_gtn (a := n_12) rfl (by omega) (y := (-1)) (by decide))))
          refine lv_aload_n hx hb dX11_paste_40 rfl (lv_at hl 0 rfl) ?_
          refine x_get S hK hP 0 rfl cfX11 43 lkX11_76 (by decide) rfl dX11_paste_41 ?_
          refine lv_iload_n hx hb dX11_paste_44 rfl (lv_at hl 1 rfl) ?_
          refine x_iald S hK hP 2 rfl (vp_in_nI (by omega) (by decide)) dX11_paste_45 ?_
          refine x_is (fwidth kj) (cl_at (f := fwidth) (a := kj) rfl (by omega)) ?_
          refine lv_aload_n hx hb dX11_paste_46 rfl (lv_at hl 0 rfl) ?_
          refine x_get S hK hP 0 rfl cfX11 43 lkX11_76 (by decide) rfl dX11_paste_47 ?_
          refine lv_iload_n hx hb dX11_paste_50 rfl (lv_at hl 3 rfl) ?_
          refine x_iald S hK hP 2 rfl (vp_in_nI (by omega) (by decide)) dX11_paste_51 ?_
          refine x_is (fwidth kt) (cl_at (f := fwidth) (a := kt) rfl (by omega)) ?_
          refine lv_icmp_eq (tgt := 58) hx hb dX11_paste_52 (by decide) (fun c_15 => ?_) (fun c_15 => ?_)
          · skip
            refine lv_iload_n hx hb dX11_paste_58 rfl (lv_at hl 2 rfl) ?_
            refine lv_if_lt (tgt := 107) hx hb dX11_paste_59 (by decide) (fun c_16 => ?_) (fun c_16 => ?_)
            · skip
              refine lv_bipush (v := (-7)) hx hb dX11_paste_107 (by decide) ?_
              exact x_reti S hr hlk hQ hS ((fun i => ([] : List (Int32)).getD i 0), (fun i => ([] : List (Nat)).getD i 0), (fun i => ([] : List (Nat → Int32)).getD i (fun _ => 0)), (fun i => ([fnumbers, fmoving] : List (Nat → Int64)).getD i (fun _ => 0)), (fun i => ([] : List (Int64)).getD i 0)) (apa_7 ekj (by omega) ekt (by omega) (ni_nem e_7 (by omega)) (ni_nem e_11 (by omega)) c_15 (fun z => z.1.1 c_16)) (x_B hP hD) dX11_paste_109
            · skip
              refine lv_iload hx hb dX11_paste_62 (lv_at hl 4 rfl) ?_
              refine lv_if_lt (tgt := 107) hx hb dX11_paste_64 (by decide) (fun c_17 => ?_) (fun c_17 => ?_)
              · skip
                refine lv_bipush (v := (-7)) hx hb dX11_paste_107 (by decide) ?_
                exact x_reti S hr hlk hQ hS ((fun i => ([] : List (Int32)).getD i 0), (fun i => ([] : List (Nat)).getD i 0), (fun i => ([] : List (Nat → Int32)).getD i (fun _ => 0)), (fun i => ([fnumbers, fmoving] : List (Nat → Int64)).getD i (fun _ => 0)), (fun i => ([] : List (Int64)).getD i 0)) (apa_7 ekj (by omega) ekt (by omega) (ni_nem e_7 (by omega)) (ni_nem e_11 (by omega)) c_15 (fun z => z.2.1 c_17)) (x_B hP hD) dX11_paste_109
              · skip
                refine lv_iload hx hb dX11_paste_67 (lv_at hl 5 rfl) ?_
                refine lv_if_lt (tgt := 107) hx hb dX11_paste_69 (by decide) (fun c_18 => ?_) (fun c_18 => ?_)
                · skip
                  refine lv_bipush (v := (-7)) hx hb dX11_paste_107 (by decide) ?_
                  exact x_reti S hr hlk hQ hS ((fun i => ([] : List (Int32)).getD i 0), (fun i => ([] : List (Nat)).getD i 0), (fun i => ([] : List (Nat → Int32)).getD i (fun _ => 0)), (fun i => ([fnumbers, fmoving] : List (Nat → Int64)).getD i (fun _ => 0)), (fun i => ([] : List (Int64)).getD i 0)) (apa_7 ekj (by omega) ekt (by omega) (ni_nem e_7 (by omega)) (ni_nem e_11 (by omega)) c_15 (fun z => z.1.2.1 c_18)) (x_B hP hD) dX11_paste_109
                · skip
                  obtain ⟨ka, hka, eka⟩ : ∃ ka : Nat, ka < 2147483648 ∧ p1 = nI ka := natp c_16
                  have hl : lv_has ls 7 [(0, .ref (n 0)), (1, .int (nI kj)), (2, .int (nI ka)), (3, .int (nI kt)), (4, .int p3), (5, .int p4)] := by rw [eka] at hl; exact hl
                  obtain ⟨kb, hkb, ekb⟩ : ∃ kb : Nat, kb < 2147483648 ∧ p3 = nI kb := natp c_17
                  have hl : lv_has ls 7 [(0, .ref (n 0)), (1, .int (nI kj)), (2, .int (nI ka)), (3, .int (nI kt)), (4, .int (nI kb)), (5, .int p4)] := by rw [ekb] at hl; exact hl
                  obtain ⟨kn, hkn, ekn⟩ : ∃ kn : Nat, kn < 2147483648 ∧ p4 = nI kn := natp c_18
                  have hl : lv_has ls 7 [(0, .ref (n 0)), (1, .int (nI kj)), (2, .int (nI ka)), (3, .int (nI kt)), (4, .int (nI kb)), (5, .int (nI kn))] := by rw [ekn] at hl; exact hl
                  refine lv_iload_n hx hb dX11_paste_72 rfl (lv_at hl 2 rfl) ?_
                  refine lv_i2l (v := (nI ka).toInt64) hx hb dX11_paste_73 rfl ?_
                  refine lv_iload hx hb dX11_paste_74 (lv_at hl 5 rfl) ?_
                  refine lv_i2l (v := (nI kn).toInt64) hx hb dX11_paste_76 rfl ?_
                  refine lv_ladd hx hb dX11_paste_77 ?_
                  refine lv_topl (fun v_19 ev_19 => ?_)
                  refine lv_aload_n hx hb dX11_paste_78 rfl (lv_at hl 0 rfl) ?_
                  refine x_get S hK hP 0 rfl cfX11 42 lkX11_73 (by decide) rfl dX11_paste_79 ?_
                  refine lv_iload_n hx hb dX11_paste_82 rfl (lv_at hl 1 rfl) ?_
                  refine x_iald S hK hP 1 rfl (vp_in_nI (by omega) (by decide)) dX11_paste_83 ?_
                  refine x_is (nI n_8) ((cl_at (f := fmany) (a := kj) rfl (by omega)).trans e_7) ?_
                  refine lv_i2l (v := (nI n_8).toInt64) hx hb dX11_paste_84 rfl ?_
                  refine W.lcmp hx hb dX11_paste_85 ?_
                  refine lv_if_gt (tgt := 107) hx hb dX11_paste_86 (by decide) (fun c_20 => ?_) (fun c_20 => ?_)
                  · skip
                    have c_20 : (nI n_8).toInt64 < v_19 := (lg_cmp_gt _ _).mp c_20
                    refine lv_bipush (v := (-7)) hx hb dX11_paste_107 (by decide) ?_
                    exact x_reti S hr hlk hQ hS ((fun i => ([] : List (Int32)).getD i 0), (fun i => ([] : List (Nat)).getD i 0), (fun i => ([] : List (Nat → Int32)).getD i (fun _ => 0)), (fun i => ([fnumbers, fmoving] : List (Nat → Int64)).getD i (fun _ => 0)), (fun i => ([] : List (Int64)).getD i 0)) (apa_7 ekj (by omega) ekt (by omega) (ni_nem e_7 (by omega)) (ni_nem e_11 (by omega)) c_15 (fun z => (Int64.not_le.mpr c_20) ((add64i ev_19 (by omega) (by omega) (by omega)).mpr ((rch_le e_7 eka ekn (by omega) (by omega) (by omega)).mp z.1.2.2)))) (x_B hP hD) dX11_paste_109
                  · skip
                    have c_20 : ¬ (nI n_8).toInt64 < v_19 := fun q => c_20 ((lg_cmp_gt _ _).mpr q)
                    refine lv_iload hx hb dX11_paste_89 (lv_at hl 4 rfl) ?_
                    refine lv_i2l (v := (nI kb).toInt64) hx hb dX11_paste_91 rfl ?_
                    refine lv_iload hx hb dX11_paste_92 (lv_at hl 5 rfl) ?_
                    refine lv_i2l (v := (nI kn).toInt64) hx hb dX11_paste_94 rfl ?_
                    refine lv_ladd hx hb dX11_paste_95 ?_
                    refine lv_topl (fun v_21 ev_21 => ?_)
                    refine lv_aload_n hx hb dX11_paste_96 rfl (lv_at hl 0 rfl) ?_
                    refine x_get S hK hP 0 rfl cfX11 42 lkX11_73 (by decide) rfl dX11_paste_97 ?_
                    refine lv_iload_n hx hb dX11_paste_100 rfl (lv_at hl 3 rfl) ?_
                    refine x_iald S hK hP 1 rfl (vp_in_nI (by omega) (by decide)) dX11_paste_101 ?_
                    refine x_is (nI n_12) ((cl_at (f := fmany) (a := kt) rfl (by omega)).trans e_11) ?_
                    refine lv_i2l (v := (nI n_12).toInt64) hx hb dX11_paste_102 rfl ?_
                    refine W.lcmp hx hb dX11_paste_103 ?_
                    refine lv_if_le (tgt := 110) hx hb dX11_paste_104 (by decide) (fun c_22 => ?_) (fun c_22 => ?_)
                    · skip
                      have c_22 : v_21 ≤ (nI n_12).toInt64 := (lg_cmp_le _ _).mp c_22
                      have hlkj := add64 ev_19 c_20 (by omega) (by omega) (by omega)
                      have hlkt := add64 ev_21 (Int64.not_lt.mpr c_22) (by omega) (by omega) (by omega)
                      refine lv_iconst (v := 0) hx hb dX11_paste_110 (by decide) ?_
                      refine lv_istore (lv' := [(6, .int 0), (0, .ref (n 0)), (1, .int (nI kj)), (2, .int (nI ka)), (3, .int (nI kt)), (4, .int (nI kb)), (5, .int (nI kn))]) hx hb dX11_paste_111 hl (by decide) rfl (fun ls hl => ?_)
                      have lp_35 : ∀ (nn j_33 : Nat) (g_34 : Nat → Int64) (H : Heap) (locs : List Loc) (ls : Array Slot), j_33 ≤ kn → kn - j_33 < nn → va_P D vwCl [((n 0), .inr (11, [.int mthrown, .ref (n 1), .ref (n 2), .ref (n 3), .ref (n 4), .int (nI mtaped), .ref (n 5), .int (nI msize), .int (nI mat), .int (nI mfrom), .int mtoken, .int mvalue, .int mfaultKind, .int mfaultPlace, .ref (n 6), .ref (n 7), .ref (n 8), .ref (n 9), .ref (n 10), .ref (n 11), .ref (n 12), .int (nI mmoreMany), .int mlawNow, .int mwetSet, .int moverAll, .ref (n 13), .ref (n 14), .ref (n 15), .int mones, .int mtwos, .int mgone, .ref (n 16), .ref (n 17), .int mroundNow, .ref (n 18), .long msampleFor, .long msampleAll, .ref (n 19), .int maskWorst, .long moftenAll, .long moftenView, .long moftenOnes, .ref (n 20), .ref (n 21), .ref (n 22), .ref (n 23)])), ((n 20), .inl (k 0, 4, .inl fmany)), ((n 21), .inl (k 0, 4, .inl fwidth)), ((n 22), .inl (k 2, 240, .inr (.inl fnumbers))), ((n 23), .inl (k 2, 60, .inr (.inl g_34)))] H → va_D A [((n 0), .inr (11, [.int mthrown, .ref (n 1), .ref (n 2), .ref (n 3), .ref (n 4), .int (nI mtaped), .ref (n 5), .int (nI msize), .int (nI mat), .int (nI mfrom), .int mtoken, .int mvalue, .int mfaultKind, .int mfaultPlace, .ref (n 6), .ref (n 7), .ref (n 8), .ref (n 9), .ref (n 10), .ref (n 11), .ref (n 12), .int (nI mmoreMany), .int mlawNow, .int mwetSet, .int moverAll, .ref (n 13), .ref (n 14), .ref (n 15), .int mones, .int mtwos, .int mgone, .ref (n 16), .ref (n 17), .int mroundNow, .ref (n 18), .long msampleFor, .long msampleAll, .ref (n 19), .int maskWorst, .long moftenAll, .long moftenView, .long moftenOnes, .ref (n 20), .ref (n 21), .ref (n 22), .ref (n 23)])), ((n 20), .inl (k 0, 4, .inl fmany)), ((n 21), .inl (k 0, 4, .inl fwidth)), ((n 22), .inl (k 2, 240, .inr (.inl fnumbers))), ((n 23), .inl (k 2, 60, .inr (.inl g_34)))] → va_S A s.heap H locs → lv_has ls 7 [(6, .int (nI j_33)), (0, .ref (n 0)), (1, .int (nI kj)), (2, .int (nI ka)), (3, .int (nI kt)), (4, .int (nI kb)), (5, .int (nI kn))] → W p l e (Rm 2 0 0) s m args below meth c H locs 0 0 Q (F0 m 113 ls []) := by
                        intro nn
                        induction nn with
                        | zero => intro j_33 g_34 H locs ls hjj_33 hnj_33; exact absurd hnj_33 (by omega)
                        | succ nn ihj_33 =>
                          intro j_33 g_34 H locs ls hjj_33 hnj_33 hP hD hS hl
                          refine lv_iload hx hb dX11_paste_113 (lv_at hl 0 rfl) ?_
                          refine lv_iload hx hb dX11_paste_115 (lv_at hl 6 rfl) ?_
                          refine lv_icmp_ge (tgt := 147) hx hb dX11_paste_117 (by decide) (fun c_36 => ?_) (fun c_36 => ?_)
                          · skip
                            have c_36 : kn ≤ j_33 := (ni_le rfl rfl (by omega) (by omega)).mp c_36
                            refine lv_iconst (v := 0) hx hb dX11_paste_147 (by decide) ?_
                            refine lv_istore (lv' := [(6, .int 0), (0, .ref (n 0)), (1, .int (nI kj)), (2, .int (nI ka)), (3, .int (nI kt)), (4, .int (nI kb)), (5, .int (nI kn))]) hx hb dX11_paste_148 hl (by decide) rfl (fun ls hl => ?_)
                            have lp_49 : ∀ (nn j_47 : Nat) (g_48 : Nat → Int64) (H : Heap) (locs : List Loc) (ls : Array Slot), j_47 ≤ kn → kn - j_47 < nn → va_P D vwCl [((n 0), .inr (11, [.int mthrown, .ref (n 1), .ref (n 2), .ref (n 3), .ref (n 4), .int (nI mtaped), .ref (n 5), .int (nI msize), .int (nI mat), .int (nI mfrom), .int mtoken, .int mvalue, .int mfaultKind, .int mfaultPlace, .ref (n 6), .ref (n 7), .ref (n 8), .ref (n 9), .ref (n 10), .ref (n 11), .ref (n 12), .int (nI mmoreMany), .int mlawNow, .int mwetSet, .int moverAll, .ref (n 13), .ref (n 14), .ref (n 15), .int mones, .int mtwos, .int mgone, .ref (n 16), .ref (n 17), .int mroundNow, .ref (n 18), .long msampleFor, .long msampleAll, .ref (n 19), .int maskWorst, .long moftenAll, .long moftenView, .long moftenOnes, .ref (n 20), .ref (n 21), .ref (n 22), .ref (n 23)])), ((n 20), .inl (k 0, 4, .inl fmany)), ((n 21), .inl (k 0, 4, .inl fwidth)), ((n 22), .inl (k 2, 240, .inr (.inl g_48))), ((n 23), .inl (k 2, 60, .inr (.inl g_34)))] H → va_D A [((n 0), .inr (11, [.int mthrown, .ref (n 1), .ref (n 2), .ref (n 3), .ref (n 4), .int (nI mtaped), .ref (n 5), .int (nI msize), .int (nI mat), .int (nI mfrom), .int mtoken, .int mvalue, .int mfaultKind, .int mfaultPlace, .ref (n 6), .ref (n 7), .ref (n 8), .ref (n 9), .ref (n 10), .ref (n 11), .ref (n 12), .int (nI mmoreMany), .int mlawNow, .int mwetSet, .int moverAll, .ref (n 13), .ref (n 14), .ref (n 15), .int mones, .int mtwos, .int mgone, .ref (n 16), .ref (n 17), .int mroundNow, .ref (n 18), .long msampleFor, .long msampleAll, .ref (n 19), .int maskWorst, .long moftenAll, .long moftenView, .long moftenOnes, .ref (n 20), .ref (n 21), .ref (n 22), .ref (n 23)])), ((n 20), .inl (k 0, 4, .inl fmany)), ((n 21), .inl (k 0, 4, .inl fwidth)), ((n 22), .inl (k 2, 240, .inr (.inl g_48))), ((n 23), .inl (k 2, 60, .inr (.inl g_34)))] → va_S A s.heap H locs → lv_has ls 7 [(6, .int (nI j_47)), (0, .ref (n 0)), (1, .int (nI kj)), (2, .int (nI ka)), (3, .int (nI kt)), (4, .int (nI kb)), (5, .int (nI kn))] → W p l e (Rm 2 0 0) s m args below meth c H locs 0 0 Q (F0 m 150 ls []) := by
                              intro nn
                              induction nn with
                              | zero => intro j_47 g_48 H locs ls hjj_47 hnj_47; exact absurd hnj_47 (by omega)
                              | succ nn ihj_47 =>
                                intro j_47 g_48 H locs ls hjj_47 hnj_47 hP hD hS hl
                                refine lv_iload hx hb dX11_paste_150 (lv_at hl 0 rfl) ?_
                                refine lv_iload hx hb dX11_paste_152 (lv_at hl 6 rfl) ?_
                                refine lv_icmp_ge (tgt := 185) hx hb dX11_paste_154 (by decide) (fun c_50 => ?_) (fun c_50 => ?_)
                                · skip
                                  have c_50 : kn ≤ j_47 := (ni_le rfl rfl (by omega) (by omega)).mp c_50
                                  refine lv_iconst (v := 0) hx hb dX11_paste_185 (by decide) ?_
                                  exact x_reti S hr hlk hQ hS ((fun i => ([] : List (Int32)).getD i 0), (fun i => ([] : List (Nat)).getD i 0), (fun i => ([] : List (Nat → Int32)).getD i (fun _ => 0)), (fun i => ([g_48, g_34] : List (Nat → Int64)).getD i (fun _ => 0)), (fun i => ([] : List (Int64)).getD i 0)) (apa_0 ekj (by omega) ekt (by omega) (ni_nem e_7 (by omega)) (ni_nem e_11 (by omega)) c_15 ⟨⟨c_16, c_18, (rch_le e_7 eka ekn (by omega) (by omega) (by omega)).mpr hlkj⟩, ⟨c_17, c_18, (rch_le e_11 ekb ekn (by omega) (by omega) (by omega)).mpr hlkt⟩⟩) (x_B hP hD) dX11_paste_186
                                · skip
                                  have c_50 : ¬ kn ≤ j_47 := fun q => c_50 ((ni_le rfl rfl (by omega) (by omega)).mpr q)
                                  refine lv_aload_n hx hb dX11_paste_157 rfl (lv_at hl 1 rfl) ?_
                                  refine x_get S hK hP 0 rfl cfX11 44 lkX11_79 (by decide) rfl dX11_paste_158 ?_
                                  refine lv_bipush (v := 60) hx hb dX11_paste_161 (by decide) ?_
                                  refine lv_iload_n hx hb dX11_paste_163 rfl (lv_at hl 4 rfl) ?_
                                  refine lv_imul hx hb dX11_paste_164 ?_
                                  refine x_is (nI (60 * kt)) (ni_mul (by decide) rfl) ?_
                                  refine lv_iload hx hb dX11_paste_165 (lv_at hl 5 rfl) ?_
                                  refine lv_iadd hx hb dX11_paste_167 ?_
                                  refine x_is (nI (60 * kt + kb)) (ni_add rfl rfl) ?_
                                  refine lv_iload hx hb dX11_paste_168 (lv_at hl 0 rfl) ?_
                                  refine lv_iadd hx hb dX11_paste_170 ?_
                                  refine x_is (nI (60 * kt + kb + j_47)) (ni_add rfl rfl) ?_
                                  refine lv_aload_n hx hb dX11_paste_171 rfl (lv_at hl 1 rfl) ?_
                                  refine x_get S hK hP 0 rfl cfX11 45 lkX11_83 (by decide) rfl dX11_paste_172 ?_
                                  refine lv_iload hx hb dX11_paste_175 (lv_at hl 0 rfl) ?_
                                  refine x_lald S hK hP 4 rfl (vp_in_nI (by omega) (by decide)) dX11_paste_177 ?_
                                  refine lv_topl (fun v_51 ev_51 => ?_)
                                  refine x_last (ws' := fun f_52 => [((n 0), .inr (11, [.int mthrown, .ref (n 1), .ref (n 2), .ref (n 3), .ref (n 4), .int (nI mtaped), .ref (n 5), .int (nI msize), .int (nI mat), .int (nI mfrom), .int mtoken, .int mvalue, .int mfaultKind, .int mfaultPlace, .ref (n 6), .ref (n 7), .ref (n 8), .ref (n 9), .ref (n 10), .ref (n 11), .ref (n 12), .int (nI mmoreMany), .int mlawNow, .int mwetSet, .int moverAll, .ref (n 13), .ref (n 14), .ref (n 15), .int mones, .int mtwos, .int mgone, .ref (n 16), .ref (n 17), .int mroundNow, .ref (n 18), .long msampleFor, .long msampleAll, .ref (n 19), .int maskWorst, .long moftenAll, .long moftenView, .long moftenOnes, .ref (n 20), .ref (n 21), .ref (n 22), .ref (n 23)])), ((n 20), .inl (k 0, 4, .inl fmany)), ((n 21), .inl (k 0, 4, .inl fwidth)), ((n 22), .inl (k 2, 240, .inr (.inl f_52))), ((n 23), .inl (k 2, 60, .inr (.inl g_34)))]) S hK hP hD hS 3 rfl (vp_in_nI (by omega) (by decide)) (fun _ => rfl) dX11_paste_178 (fun f_52 H locs ef_52 hP hD hS => ?_)
                                  refine lv_iinc (v := (nI (j_47 + 1))) (lv' := [(6, .int (nI (j_47 + 1))), (0, .ref (n 0)), (1, .int (nI kj)), (2, .int (nI ka)), (3, .int (nI kt)), (4, .int (nI kb)), (5, .int (nI kn))]) hx hb dX11_paste_179 hl (k := 0) rfl (ni_inc _) (by decide) rfl (fun ls hl => ?_)
                                  refine lv_goto (tgt := 150) hx hb dX11_paste_182 (by decide) ?_
                                  exact ihj_47 (j_47 + 1) f_52 _ _ _ (by omega) (by omega) hP hD hS (lv_sub hl [0, 1, 2, 3, 4, 5, 6] rfl)
                            exact lp_49 (kn + 1) 0 fnumbers _ _ _ (by omega) (by omega) hP hD hS (lv_sub hl [0, 1, 2, 3, 4, 5, 6] rfl)
                          · skip
                            have c_36 : ¬ kn ≤ j_33 := fun q => c_36 ((ni_le rfl rfl (by omega) (by omega)).mpr q)
                            refine lv_aload_n hx hb dX11_paste_120 rfl (lv_at hl 1 rfl) ?_
                            refine x_get S hK hP 0 rfl cfX11 45 lkX11_83 (by decide) rfl dX11_paste_121 ?_
                            refine lv_iload hx hb dX11_paste_124 (lv_at hl 0 rfl) ?_
                            refine lv_aload_n hx hb dX11_paste_126 rfl (lv_at hl 1 rfl) ?_
                            refine x_get S hK hP 0 rfl cfX11 44 lkX11_79 (by decide) rfl dX11_paste_127 ?_
                            refine lv_bipush (v := 60) hx hb dX11_paste_130 (by decide) ?_
                            refine lv_iload_n hx hb dX11_paste_132 rfl (lv_at hl 2 rfl) ?_
                            refine lv_imul hx hb dX11_paste_133 ?_
                            refine x_is (nI (60 * kj)) (ni_mul (by decide) rfl) ?_
                            refine lv_iload_n hx hb dX11_paste_134 rfl (lv_at hl 3 rfl) ?_
                            refine lv_iadd hx hb dX11_paste_135 ?_
                            refine x_is (nI (60 * kj + ka)) (ni_add rfl rfl) ?_
                            refine lv_iload hx hb dX11_paste_136 (lv_at hl 0 rfl) ?_
                            refine lv_iadd hx hb dX11_paste_138 ?_
                            refine x_is (nI (60 * kj + ka + j_33)) (ni_add rfl rfl) ?_
                            refine x_lald S hK hP 3 rfl (vp_in_nI (by omega) (by decide)) dX11_paste_139 ?_
                            refine lv_topl (fun v_53 ev_53 => ?_)
                            refine x_last (ws' := fun f_54 => [((n 0), .inr (11, [.int mthrown, .ref (n 1), .ref (n 2), .ref (n 3), .ref (n 4), .int (nI mtaped), .ref (n 5), .int (nI msize), .int (nI mat), .int (nI mfrom), .int mtoken, .int mvalue, .int mfaultKind, .int mfaultPlace, .ref (n 6), .ref (n 7), .ref (n 8), .ref (n 9), .ref (n 10), .ref (n 11), .ref (n 12), .int (nI mmoreMany), .int mlawNow, .int mwetSet, .int moverAll, .ref (n 13), .ref (n 14), .ref (n 15), .int mones, .int mtwos, .int mgone, .ref (n 16), .ref (n 17), .int mroundNow, .ref (n 18), .long msampleFor, .long msampleAll, .ref (n 19), .int maskWorst, .long moftenAll, .long moftenView, .long moftenOnes, .ref (n 20), .ref (n 21), .ref (n 22), .ref (n 23)])), ((n 20), .inl (k 0, 4, .inl fmany)), ((n 21), .inl (k 0, 4, .inl fwidth)), ((n 22), .inl (k 2, 240, .inr (.inl fnumbers))), ((n 23), .inl (k 2, 60, .inr (.inl f_54)))]) S hK hP hD hS 4 rfl (vp_in_nI (by omega) (by decide)) (fun _ => rfl) dX11_paste_140 (fun f_54 H locs ef_54 hP hD hS => ?_)
                            refine lv_iinc (v := (nI (j_33 + 1))) (lv' := [(6, .int (nI (j_33 + 1))), (0, .ref (n 0)), (1, .int (nI kj)), (2, .int (nI ka)), (3, .int (nI kt)), (4, .int (nI kb)), (5, .int (nI kn))]) hx hb dX11_paste_141 hl (k := 0) rfl (ni_inc _) (by decide) rfl (fun ls hl => ?_)
                            refine lv_goto (tgt := 113) hx hb dX11_paste_144 (by decide) ?_
                            exact ihj_33 (j_33 + 1) f_54 _ _ _ (by omega) (by omega) hP hD hS (lv_sub hl [0, 1, 2, 3, 4, 5, 6] rfl)
                      exact lp_35 (kn + 1) 0 fmoving _ _ _ (by omega) (by omega) hP hD hS (lv_sub hl [0, 1, 2, 3, 4, 5, 6] rfl)
                    · skip
                      have c_22 : ¬ v_21 ≤ (nI n_12).toInt64 := fun q => c_22 ((lg_cmp_le _ _).mpr q)
                      refine lv_bipush (v := (-7)) hx hb dX11_paste_107 (by decide) ?_
                      exact x_reti S hr hlk hQ hS ((fun i => ([] : List (Int32)).getD i 0), (fun i => ([] : List (Nat)).getD i 0), (fun i => ([] : List (Nat → Int32)).getD i (fun _ => 0)), (fun i => ([fnumbers, fmoving] : List (Nat → Int64)).getD i (fun _ => 0)), (fun i => ([] : List (Int64)).getD i 0)) (apa_7 ekj (by omega) ekt (by omega) (ni_nem e_7 (by omega)) (ni_nem e_11 (by omega)) c_15 (fun z => c_22 ((add64i ev_21 (by omega) (by omega) (by omega)).mpr ((rch_le e_11 ekb ekn (by omega) (by omega) (by omega)).mp z.2.2.2)))) (x_B hP hD) dX11_paste_109
          · skip
            refine lv_bipush (v := (-8)) hx hb dX11_paste_55 (by decide) ?_
            exact x_reti S hr hlk hQ hS ((fun i => ([] : List (Int32)).getD i 0), (fun i => ([] : List (Nat)).getD i 0), (fun i => ([] : List (Nat → Int32)).getD i (fun _ => 0)), (fun i => ([fnumbers, fmoving] : List (Nat → Int64)).getD i (fun _ => 0)), (fun i => ([] : List (Int64)).getD i 0)) (apa_8 ekj (by omega) ekt (by omega) (ni_nem e_7 (by omega)) (ni_nem e_11 (by omega)) c_15) (x_B hP hD) dX11_paste_57
    · skip
      have c_6 : ¬ (0 ≤ p2.toInt64 ∧ p2.toInt64 ≤ 3) := bo_0.mp c_6
      refine lv_bipush (v := (-2)) hx hb dX11_paste_14 (by decide) ?_
      exact x_reti S hr hlk hQ hS ((fun i => ([] : List (Int32)).getD i 0), (fun i => ([] : List (Nat)).getD i 0), (fun i => ([] : List (Nat → Int32)).getD i (fun _ => 0)), (fun i => ([fnumbers, fmoving] : List (Nat → Int64)).getD i (fun _ => 0)), (fun i => ([] : List (Int64)).getD i 0)) (apa_2b (fun q => c_6 (i64_3.mpr q))) (x_B hP hD) dX11_paste_16

