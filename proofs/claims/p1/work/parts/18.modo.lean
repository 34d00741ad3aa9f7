theorem upd0 {f : Nat → Int32} {k : Nat} (h : ∀ i, f i = 0) (i : Nat) : upd f k 0 i = 0 := by
  by_cases e : i = k
  · rw [e]; exact pk_us
  · rw [pk_un e]; exact h i
theorem dX11_fault_0 : decode cX11_fault 0 = .ok (.iload_n 1, 1) := by decide +kernel
theorem dX11_fault_1 : decode cX11_fault 1 = .ok (.ifCond .ne 10, 3) := by decide +kernel
theorem dX11_fault_4 : decode cX11_fault 4 = .ok (.aload_n 0, 1) := by decide +kernel
theorem dX11_fault_5 : decode cX11_fault 5 = .ok (.getfield 143, 3) := by decide +kernel
theorem dX11_fault_8 : decode cX11_fault 8 = .ok (.goto 16, 3) := by decide +kernel
theorem dX11_fault_11 : decode cX11_fault 11 = .ok (.iload_n 1, 1) := by decide +kernel
theorem dX11_fault_12 : decode cX11_fault 12 = .ok (.iconst 1, 1) := by decide +kernel
theorem dX11_fault_13 : decode cX11_fault 13 = .ok (.if_icmp .ne 10, 3) := by decide +kernel
theorem dX11_fault_16 : decode cX11_fault 16 = .ok (.aload_n 0, 1) := by decide +kernel
theorem dX11_fault_17 : decode cX11_fault 17 = .ok (.getfield 27, 3) := by decide +kernel
theorem dX11_fault_20 : decode cX11_fault 20 = .ok (.goto 4, 3) := by decide +kernel
theorem dX11_fault_23 : decode cX11_fault 23 = .ok (.iconst (-1), 1) := by decide +kernel
theorem dX11_fault_24 : decode cX11_fault 24 = .ok (.ireturn, 1) := by decide +kernel
theorem dX11_end_0 : decode cX11_end 0 = .ok (.iload_n 1, 1) := by decide +kernel
theorem dX11_end_1 : decode cX11_end 1 = .ok (.i2l, 1) := by decide +kernel
theorem dX11_end_2 : decode cX11_end 2 = .ok (.lconst 0, 1) := by decide +kernel
theorem dX11_end_3 : decode cX11_end 3 = .ok (.aload_n 0, 1) := by decide +kernel
theorem dX11_end_4 : decode cX11_end 4 = .ok (.getfield 106, 3) := by decide +kernel
theorem dX11_end_7 : decode cX11_end 7 = .ok (.i2l, 1) := by decide +kernel
theorem dX11_end_8 : decode cX11_end 8 = .ok (.invokestatic 91, 3) := by decide +kernel
theorem dX11_end_11 : decode cX11_end 11 = .ok (.ifCond .ne 5, 3) := by decide +kernel
theorem dX11_end_14 : decode cX11_end 14 = .ok (.iconst (-1), 1) := by decide +kernel
theorem dX11_end_15 : decode cX11_end 15 = .ok (.ireturn, 1) := by decide +kernel
theorem dX11_end_16 : decode cX11_end 16 = .ok (.aload_n 0, 1) := by decide +kernel
theorem dX11_end_17 : decode cX11_end 17 = .ok (.iload_n 1, 1) := by decide +kernel
theorem dX11_end_18 : decode cX11_end 18 = .ok (.putfield 106, 3) := by decide +kernel
theorem dX11_end_21 : decode cX11_end 21 = .ok (.iload_n 1, 1) := by decide +kernel
theorem dX11_end_22 : decode cX11_end 22 = .ok (.ireturn, 1) := by decide +kernel
theorem dX11_feed_0 : decode cX11_feed 0 = .ok (.aload_n 0, 1) := by decide +kernel
theorem dX11_feed_1 : decode cX11_feed 1 = .ok (.getfield 106, 3) := by decide +kernel
theorem dX11_feed_4 : decode cX11_feed 4 = .ok (.bipush 20, 2) := by decide +kernel
theorem dX11_feed_6 : decode cX11_feed 6 = .ok (.iadd, 1) := by decide +kernel
theorem dX11_feed_7 : decode cX11_feed 7 = .ok (.sipush 600, 3) := by decide +kernel
theorem dX11_feed_10 : decode cX11_feed 10 = .ok (.if_icmp .le 5, 3) := by decide +kernel
theorem dX11_feed_13 : decode cX11_feed 13 = .ok (.iconst (-1), 1) := by decide +kernel
theorem dX11_feed_14 : decode cX11_feed 14 = .ok (.ireturn, 1) := by decide +kernel
theorem dX11_feed_15 : decode cX11_feed 15 = .ok (.aload_n 0, 1) := by decide +kernel
theorem dX11_feed_16 : decode cX11_feed 16 = .ok (.getfield 24, 3) := by decide +kernel
theorem dX11_feed_19 : decode cX11_feed 19 = .ok (.iconst 0, 1) := by decide +kernel
theorem dX11_feed_20 : decode cX11_feed 20 = .ok (.iload_n 1, 1) := by decide +kernel
theorem dX11_feed_21 : decode cX11_feed 21 = .ok (.iastore, 1) := by decide +kernel
theorem dX11_feed_22 : decode cX11_feed 22 = .ok (.aload_n 0, 1) := by decide +kernel
theorem dX11_feed_23 : decode cX11_feed 23 = .ok (.getfield 24, 3) := by decide +kernel
theorem dX11_feed_26 : decode cX11_feed 26 = .ok (.iconst 1, 1) := by decide +kernel
theorem dX11_feed_27 : decode cX11_feed 27 = .ok (.iload_n 2, 1) := by decide +kernel
theorem dX11_feed_28 : decode cX11_feed 28 = .ok (.iastore, 1) := by decide +kernel
theorem dX11_feed_29 : decode cX11_feed 29 = .ok (.aload_n 0, 1) := by decide +kernel
theorem dX11_feed_30 : decode cX11_feed 30 = .ok (.getfield 24, 3) := by decide +kernel
theorem dX11_feed_33 : decode cX11_feed 33 = .ok (.iconst 2, 1) := by decide +kernel
theorem dX11_feed_34 : decode cX11_feed 34 = .ok (.iload_n 3, 1) := by decide +kernel
theorem dX11_feed_35 : decode cX11_feed 35 = .ok (.iastore, 1) := by decide +kernel
theorem dX11_feed_36 : decode cX11_feed 36 = .ok (.aload_n 0, 1) := by decide +kernel
theorem dX11_feed_37 : decode cX11_feed 37 = .ok (.getfield 24, 3) := by decide +kernel
theorem dX11_feed_40 : decode cX11_feed 40 = .ok (.iconst 3, 1) := by decide +kernel
theorem dX11_feed_41 : decode cX11_feed 41 = .ok (.iload 4, 2) := by decide +kernel
theorem dX11_feed_43 : decode cX11_feed 43 = .ok (.iastore, 1) := by decide +kernel
theorem dX11_feed_44 : decode cX11_feed 44 = .ok (.aload_n 0, 1) := by decide +kernel
theorem dX11_feed_45 : decode cX11_feed 45 = .ok (.getfield 24, 3) := by decide +kernel
theorem dX11_feed_48 : decode cX11_feed 48 = .ok (.iconst 4, 1) := by decide +kernel
theorem dX11_feed_49 : decode cX11_feed 49 = .ok (.iload 5, 2) := by decide +kernel
theorem dX11_feed_51 : decode cX11_feed 51 = .ok (.iastore, 1) := by decide +kernel
theorem dX11_feed_52 : decode cX11_feed 52 = .ok (.iconst 0, 1) := by decide +kernel
theorem dX11_feed_53 : decode cX11_feed 53 = .ok (.istore 6, 2) := by decide +kernel
theorem dX11_feed_55 : decode cX11_feed 55 = .ok (.iload 6, 2) := by decide +kernel
theorem dX11_feed_57 : decode cX11_feed 57 = .ok (.bipush 20, 2) := by decide +kernel
theorem dX11_feed_59 : decode cX11_feed 59 = .ok (.if_icmp .ge 42, 3) := by decide +kernel
theorem dX11_feed_62 : decode cX11_feed 62 = .ok (.aload_n 0, 1) := by decide +kernel
theorem dX11_feed_63 : decode cX11_feed 63 = .ok (.getfield 20, 3) := by decide +kernel
theorem dX11_feed_66 : decode cX11_feed 66 = .ok (.aload_n 0, 1) := by decide +kernel
theorem dX11_feed_67 : decode cX11_feed 67 = .ok (.getfield 106, 3) := by decide +kernel
theorem dX11_feed_70 : decode cX11_feed 70 = .ok (.iload 6, 2) := by decide +kernel
theorem dX11_feed_72 : decode cX11_feed 72 = .ok (.iadd, 1) := by decide +kernel
theorem dX11_feed_73 : decode cX11_feed 73 = .ok (.aload_n 0, 1) := by decide +kernel
theorem dX11_feed_74 : decode cX11_feed 74 = .ok (.getfield 24, 3) := by decide +kernel
theorem dX11_feed_77 : decode cX11_feed 77 = .ok (.iload 6, 2) := by decide +kernel
theorem dX11_feed_79 : decode cX11_feed 79 = .ok (.iconst 4, 1) := by decide +kernel
theorem dX11_feed_80 : decode cX11_feed 80 = .ok (.idiv, 1) := by decide +kernel
theorem dX11_feed_81 : decode cX11_feed 81 = .ok (.iaload, 1) := by decide +kernel
theorem dX11_feed_82 : decode cX11_feed 82 = .ok (.bipush 24, 2) := by decide +kernel
theorem dX11_feed_84 : decode cX11_feed 84 = .ok (.bipush 8, 2) := by decide +kernel
theorem dX11_feed_86 : decode cX11_feed 86 = .ok (.iload 6, 2) := by decide +kernel
theorem dX11_feed_88 : decode cX11_feed 88 = .ok (.iconst 4, 1) := by decide +kernel
theorem dX11_feed_89 : decode cX11_feed 89 = .ok (.irem, 1) := by decide +kernel
theorem dX11_feed_90 : decode cX11_feed 90 = .ok (.imul, 1) := by decide +kernel
theorem dX11_feed_91 : decode cX11_feed 91 = .ok (.isub, 1) := by decide +kernel
theorem dX11_feed_92 : decode cX11_feed 92 = .ok (.ishr, 1) := by decide +kernel
theorem dX11_feed_93 : decode cX11_feed 93 = .ok (.i2b, 1) := by decide +kernel
theorem dX11_feed_94 : decode cX11_feed 94 = .ok (.bastore, 1) := by decide +kernel
theorem dX11_feed_95 : decode cX11_feed 95 = .ok (.iinc 6 1, 3) := by decide +kernel
theorem dX11_feed_98 : decode cX11_feed 98 = .ok (.goto (-43), 3) := by decide +kernel
theorem dX11_feed_101 : decode cX11_feed 101 = .ok (.aload_n 0, 1) := by decide +kernel
theorem dX11_feed_102 : decode cX11_feed 102 = .ok (.dup, 1) := by decide +kernel
theorem dX11_feed_103 : decode cX11_feed 103 = .ok (.getfield 106, 3) := by decide +kernel
theorem dX11_feed_106 : decode cX11_feed 106 = .ok (.bipush 20, 2) := by decide +kernel
theorem dX11_feed_108 : decode cX11_feed 108 = .ok (.iadd, 1) := by decide +kernel
theorem dX11_feed_109 : decode cX11_feed 109 = .ok (.putfield 106, 3) := by decide +kernel
theorem dX11_feed_112 : decode cX11_feed 112 = .ok (.aload_n 0, 1) := by decide +kernel
theorem dX11_feed_113 : decode cX11_feed 113 = .ok (.getfield 106, 3) := by decide +kernel
theorem dX11_feed_116 : decode cX11_feed 116 = .ok (.ireturn, 1) := by decide +kernel
theorem dX11_count_0 : decode cX11_count 0 = .ok (.iload_n 1, 1) := by decide +kernel
theorem dX11_count_1 : decode cX11_count 1 = .ok (.i2l, 1) := by decide +kernel
theorem dX11_count_2 : decode cX11_count 2 = .ok (.lconst 0, 1) := by decide +kernel
theorem dX11_count_3 : decode cX11_count 3 = .ok (.ldc2_w 509, 3) := by decide +kernel
theorem dX11_count_6 : decode cX11_count 6 = .ok (.invokestatic 91, 3) := by decide +kernel
theorem dX11_count_9 : decode cX11_count 9 = .ok (.ifCond .eq 10, 3) := by decide +kernel
theorem dX11_count_12 : decode cX11_count 12 = .ok (.aload_n 0, 1) := by decide +kernel
theorem dX11_count_13 : decode cX11_count 13 = .ok (.getfield 9, 3) := by decide +kernel
theorem dX11_count_16 : decode cX11_count 16 = .ok (.iload_n 1, 1) := by decide +kernel
theorem dX11_count_17 : decode cX11_count 17 = .ok (.iaload, 1) := by decide +kernel
theorem dX11_count_18 : decode cX11_count 18 = .ok (.ireturn, 1) := by decide +kernel
theorem dX11_count_19 : decode cX11_count 19 = .ok (.iload_n 1, 1) := by decide +kernel
theorem dX11_count_20 : decode cX11_count 20 = .ok (.bipush 9, 2) := by decide +kernel
theorem dX11_count_22 : decode cX11_count 22 = .ok (.if_icmp .ne 8, 3) := by decide +kernel
theorem dX11_count_25 : decode cX11_count 25 = .ok (.aload_n 0, 1) := by decide +kernel
theorem dX11_count_26 : decode cX11_count 26 = .ok (.getfield 106, 3) := by decide +kernel
theorem dX11_count_29 : decode cX11_count 29 = .ok (.ireturn, 1) := by decide +kernel
theorem dX11_count_30 : decode cX11_count 30 = .ok (.iload_n 1, 1) := by decide +kernel
theorem dX11_count_31 : decode cX11_count 31 = .ok (.bipush 10, 2) := by decide +kernel
theorem dX11_count_33 : decode cX11_count 33 = .ok (.if_icmp .eq 5, 3) := by decide +kernel
theorem dX11_count_36 : decode cX11_count 36 = .ok (.iconst (-1), 1) := by decide +kernel
theorem dX11_count_37 : decode cX11_count 37 = .ok (.ireturn, 1) := by decide +kernel
theorem dX11_count_38 : decode cX11_count 38 = .ok (.iconst 0, 1) := by decide +kernel
theorem dX11_count_39 : decode cX11_count 39 = .ok (.istore_n 2, 1) := by decide +kernel
theorem dX11_count_40 : decode cX11_count 40 = .ok (.iconst 0, 1) := by decide +kernel
theorem dX11_count_41 : decode cX11_count 41 = .ok (.istore_n 3, 1) := by decide +kernel
theorem dX11_count_42 : decode cX11_count 42 = .ok (.iload_n 3, 1) := by decide +kernel
theorem dX11_count_43 : decode cX11_count 43 = .ok (.iconst 4, 1) := by decide +kernel
theorem dX11_count_44 : decode cX11_count 44 = .ok (.if_icmp .ge 27, 3) := by decide +kernel
theorem dX11_count_47 : decode cX11_count 47 = .ok (.iload_n 2, 1) := by decide +kernel
theorem dX11_count_48 : decode cX11_count 48 = .ok (.aload_n 0, 1) := by decide +kernel
theorem dX11_count_49 : decode cX11_count 49 = .ok (.getfield 73, 3) := by decide +kernel
theorem dX11_count_52 : decode cX11_count 52 = .ok (.iload_n 3, 1) := by decide +kernel
theorem dX11_count_53 : decode cX11_count 53 = .ok (.iaload, 1) := by decide +kernel
theorem dX11_count_54 : decode cX11_count 54 = .ok (.iconst (-1), 1) := by decide +kernel
theorem dX11_count_55 : decode cX11_count 55 = .ok (.if_icmp .ne 7, 3) := by decide +kernel
theorem dX11_count_58 : decode cX11_count 58 = .ok (.iconst 0, 1) := by decide +kernel
theorem dX11_count_59 : decode cX11_count 59 = .ok (.goto 4, 3) := by decide +kernel
theorem dX11_count_62 : decode cX11_count 62 = .ok (.iconst 1, 1) := by decide +kernel
theorem dX11_count_63 : decode cX11_count 63 = .ok (.iadd, 1) := by decide +kernel
theorem dX11_count_64 : decode cX11_count 64 = .ok (.istore_n 2, 1) := by decide +kernel
theorem dX11_count_65 : decode cX11_count 65 = .ok (.iinc 3 1, 3) := by decide +kernel
theorem dX11_count_68 : decode cX11_count 68 = .ok (.goto (-26), 3) := by decide +kernel
theorem dX11_count_71 : decode cX11_count 71 = .ok (.iload_n 2, 1) := by decide +kernel
theorem dX11_count_72 : decode cX11_count 72 = .ok (.ireturn, 1) := by decide +kernel
theorem dX11_write_0 : decode cX11_write 0 = .ok (.iload_n 1, 1) := by decide +kernel
theorem dX11_write_1 : decode cX11_write 1 = .ok (.invokestatic 425, 3) := by decide +kernel
theorem dX11_write_4 : decode cX11_write 4 = .ok (.ifCond .ne 6, 3) := by decide +kernel
theorem dX11_write_7 : decode cX11_write 7 = .ok (.bipush (-2), 2) := by decide +kernel
theorem dX11_write_9 : decode cX11_write 9 = .ok (.ireturn, 1) := by decide +kernel
theorem dX11_write_10 : decode cX11_write 10 = .ok (.aload_n 0, 1) := by decide +kernel
theorem dX11_write_11 : decode cX11_write 11 = .ok (.getfield 73, 3) := by decide +kernel
theorem dX11_write_14 : decode cX11_write 14 = .ok (.iload_n 1, 1) := by decide +kernel
theorem dX11_write_15 : decode cX11_write 15 = .ok (.iaload, 1) := by decide +kernel
theorem dX11_write_16 : decode cX11_write 16 = .ok (.iconst (-1), 1) := by decide +kernel
theorem dX11_write_17 : decode cX11_write 17 = .ok (.if_icmp .ne 6, 3) := by decide +kernel
theorem dX11_write_20 : decode cX11_write 20 = .ok (.bipush (-6), 2) := by decide +kernel
theorem dX11_write_22 : decode cX11_write 22 = .ok (.ireturn, 1) := by decide +kernel
theorem dX11_write_23 : decode cX11_write 23 = .ok (.iload_n 2, 1) := by decide +kernel
theorem dX11_write_24 : decode cX11_write 24 = .ok (.i2l, 1) := by decide +kernel
theorem dX11_write_25 : decode cX11_write 25 = .ok (.lconst 0, 1) := by decide +kernel
theorem dX11_write_26 : decode cX11_write 26 = .ok (.aload_n 0, 1) := by decide +kernel
theorem dX11_write_27 : decode cX11_write 27 = .ok (.getfield 73, 3) := by decide +kernel
theorem dX11_write_30 : decode cX11_write 30 = .ok (.iload_n 1, 1) := by decide +kernel
theorem dX11_write_31 : decode cX11_write 31 = .ok (.iaload, 1) := by decide +kernel
theorem dX11_write_32 : decode cX11_write 32 = .ok (.iconst 1, 1) := by decide +kernel
theorem dX11_write_33 : decode cX11_write 33 = .ok (.isub, 1) := by decide +kernel
theorem dX11_write_34 : decode cX11_write 34 = .ok (.i2l, 1) := by decide +kernel
theorem dX11_write_35 : decode cX11_write 35 = .ok (.invokestatic 91, 3) := by decide +kernel
theorem dX11_write_38 : decode cX11_write 38 = .ok (.ifCond .ne 6, 3) := by decide +kernel
theorem dX11_write_41 : decode cX11_write 41 = .ok (.bipush (-7), 2) := by decide +kernel
theorem dX11_write_43 : decode cX11_write 43 = .ok (.ireturn, 1) := by decide +kernel
theorem dX11_write_44 : decode cX11_write 44 = .ok (.aload_n 0, 1) := by decide +kernel
theorem dX11_write_45 : decode cX11_write 45 = .ok (.getfield 79, 3) := by decide +kernel
theorem dX11_write_48 : decode cX11_write 48 = .ok (.bipush 60, 2) := by decide +kernel
theorem dX11_write_50 : decode cX11_write 50 = .ok (.iload_n 1, 1) := by decide +kernel
theorem dX11_write_51 : decode cX11_write 51 = .ok (.imul, 1) := by decide +kernel
theorem dX11_write_52 : decode cX11_write 52 = .ok (.iload_n 2, 1) := by decide +kernel
theorem dX11_write_53 : decode cX11_write 53 = .ok (.iadd, 1) := by decide +kernel
theorem dX11_write_54 : decode cX11_write 54 = .ok (.lload_n 3, 1) := by decide +kernel
theorem dX11_write_55 : decode cX11_write 55 = .ok (.aload_n 0, 1) := by decide +kernel
theorem dX11_write_56 : decode cX11_write 56 = .ok (.getfield 76, 3) := by decide +kernel
theorem dX11_write_59 : decode cX11_write 59 = .ok (.iload_n 1, 1) := by decide +kernel
theorem dX11_write_60 : decode cX11_write 60 = .ok (.iaload, 1) := by decide +kernel
theorem dX11_write_61 : decode cX11_write 61 = .ok (.invokestatic 511, 3) := by decide +kernel
theorem dX11_write_64 : decode cX11_write 64 = .ok (.lastore, 1) := by decide +kernel
theorem dX11_write_65 : decode cX11_write 65 = .ok (.iconst 0, 1) := by decide +kernel
theorem dX11_write_66 : decode cX11_write 66 = .ok (.ireturn, 1) := by decide +kernel
theorem dX11_paste_0 : decode cX11_paste 0 = .ok (.iload_n 1, 1) := by decide +kernel
theorem dX11_paste_1 : decode cX11_paste 1 = .ok (.invokestatic 425, 3) := by decide +kernel
theorem dX11_paste_4 : decode cX11_paste 4 = .ok (.ifCond .eq 10, 3) := by decide +kernel
theorem dX11_paste_7 : decode cX11_paste 7 = .ok (.iload_n 3, 1) := by decide +kernel
theorem dX11_paste_8 : decode cX11_paste 8 = .ok (.invokestatic 425, 3) := by decide +kernel
theorem dX11_paste_11 : decode cX11_paste 11 = .ok (.ifCond .ne 6, 3) := by decide +kernel
theorem dX11_paste_14 : decode cX11_paste 14 = .ok (.bipush (-2), 2) := by decide +kernel
theorem dX11_paste_16 : decode cX11_paste 16 = .ok (.ireturn, 1) := by decide +kernel
theorem dX11_paste_17 : decode cX11_paste 17 = .ok (.aload_n 0, 1) := by decide +kernel
theorem dX11_paste_18 : decode cX11_paste 18 = .ok (.getfield 73, 3) := by decide +kernel
theorem dX11_paste_21 : decode cX11_paste 21 = .ok (.iload_n 1, 1) := by decide +kernel
theorem dX11_paste_22 : decode cX11_paste 22 = .ok (.iaload, 1) := by decide +kernel
theorem dX11_paste_23 : decode cX11_paste 23 = .ok (.iconst (-1), 1) := by decide +kernel
theorem dX11_paste_24 : decode cX11_paste 24 = .ok (.if_icmp .eq 13, 3) := by decide +kernel
theorem dX11_paste_27 : decode cX11_paste 27 = .ok (.aload_n 0, 1) := by decide +kernel
theorem dX11_paste_28 : decode cX11_paste 28 = .ok (.getfield 73, 3) := by decide +kernel
theorem dX11_paste_31 : decode cX11_paste 31 = .ok (.iload_n 3, 1) := by decide +kernel
theorem dX11_paste_32 : decode cX11_paste 32 = .ok (.iaload, 1) := by decide +kernel
theorem dX11_paste_33 : decode cX11_paste 33 = .ok (.iconst (-1), 1) := by decide +kernel
theorem dX11_paste_34 : decode cX11_paste 34 = .ok (.if_icmp .ne 6, 3) := by decide +kernel
theorem dX11_paste_37 : decode cX11_paste 37 = .ok (.bipush (-6), 2) := by decide +kernel
theorem dX11_paste_39 : decode cX11_paste 39 = .ok (.ireturn, 1) := by decide +kernel
theorem dX11_paste_40 : decode cX11_paste 40 = .ok (.aload_n 0, 1) := by decide +kernel
theorem dX11_paste_41 : decode cX11_paste 41 = .ok (.getfield 76, 3) := by decide +kernel
theorem dX11_paste_44 : decode cX11_paste 44 = .ok (.iload_n 1, 1) := by decide +kernel
theorem dX11_paste_45 : decode cX11_paste 45 = .ok (.iaload, 1) := by decide +kernel
theorem dX11_paste_46 : decode cX11_paste 46 = .ok (.aload_n 0, 1) := by decide +kernel
theorem dX11_paste_47 : decode cX11_paste 47 = .ok (.getfield 76, 3) := by decide +kernel
theorem dX11_paste_50 : decode cX11_paste 50 = .ok (.iload_n 3, 1) := by decide +kernel
theorem dX11_paste_51 : decode cX11_paste 51 = .ok (.iaload, 1) := by decide +kernel
theorem dX11_paste_52 : decode cX11_paste 52 = .ok (.if_icmp .eq 6, 3) := by decide +kernel
theorem dX11_paste_55 : decode cX11_paste 55 = .ok (.bipush (-8), 2) := by decide +kernel
theorem dX11_paste_57 : decode cX11_paste 57 = .ok (.ireturn, 1) := by decide +kernel
theorem dX11_paste_58 : decode cX11_paste 58 = .ok (.iload_n 2, 1) := by decide +kernel
theorem dX11_paste_59 : decode cX11_paste 59 = .ok (.ifCond .lt 48, 3) := by decide +kernel
theorem dX11_paste_62 : decode cX11_paste 62 = .ok (.iload 4, 2) := by decide +kernel
theorem dX11_paste_64 : decode cX11_paste 64 = .ok (.ifCond .lt 43, 3) := by decide +kernel
theorem dX11_paste_67 : decode cX11_paste 67 = .ok (.iload 5, 2) := by decide +kernel
theorem dX11_paste_69 : decode cX11_paste 69 = .ok (.ifCond .lt 38, 3) := by decide +kernel
theorem dX11_paste_72 : decode cX11_paste 72 = .ok (.iload_n 2, 1) := by decide +kernel
theorem dX11_paste_73 : decode cX11_paste 73 = .ok (.i2l, 1) := by decide +kernel
theorem dX11_paste_74 : decode cX11_paste 74 = .ok (.iload 5, 2) := by decide +kernel
theorem dX11_paste_76 : decode cX11_paste 76 = .ok (.i2l, 1) := by decide +kernel
theorem dX11_paste_77 : decode cX11_paste 77 = .ok (.ladd, 1) := by decide +kernel
theorem dX11_paste_78 : decode cX11_paste 78 = .ok (.aload_n 0, 1) := by decide +kernel
theorem dX11_paste_79 : decode cX11_paste 79 = .ok (.getfield 73, 3) := by decide +kernel
theorem dX11_paste_82 : decode cX11_paste 82 = .ok (.iload_n 1, 1) := by decide +kernel
theorem dX11_paste_83 : decode cX11_paste 83 = .ok (.iaload, 1) := by decide +kernel
theorem dX11_paste_84 : decode cX11_paste 84 = .ok (.i2l, 1) := by decide +kernel
theorem dX11_paste_85 : decode cX11_paste 85 = .ok (.lcmp, 1) := by decide +kernel
theorem dX11_paste_86 : decode cX11_paste 86 = .ok (.ifCond .gt 21, 3) := by decide +kernel
theorem dX11_paste_89 : decode cX11_paste 89 = .ok (.iload 4, 2) := by decide +kernel
theorem dX11_paste_91 : decode cX11_paste 91 = .ok (.i2l, 1) := by decide +kernel
theorem dX11_paste_92 : decode cX11_paste 92 = .ok (.iload 5, 2) := by decide +kernel
theorem dX11_paste_94 : decode cX11_paste 94 = .ok (.i2l, 1) := by decide +kernel
theorem dX11_paste_95 : decode cX11_paste 95 = .ok (.ladd, 1) := by decide +kernel
theorem dX11_paste_96 : decode cX11_paste 96 = .ok (.aload_n 0, 1) := by decide +kernel
theorem dX11_paste_97 : decode cX11_paste 97 = .ok (.getfield 73, 3) := by decide +kernel
theorem dX11_paste_100 : decode cX11_paste 100 = .ok (.iload_n 3, 1) := by decide +kernel
theorem dX11_paste_101 : decode cX11_paste 101 = .ok (.iaload, 1) := by decide +kernel
theorem dX11_paste_102 : decode cX11_paste 102 = .ok (.i2l, 1) := by decide +kernel
theorem dX11_paste_103 : decode cX11_paste 103 = .ok (.lcmp, 1) := by decide +kernel
theorem dX11_paste_104 : decode cX11_paste 104 = .ok (.ifCond .le 6, 3) := by decide +kernel
theorem dX11_paste_107 : decode cX11_paste 107 = .ok (.bipush (-7), 2) := by decide +kernel
theorem dX11_paste_109 : decode cX11_paste 109 = .ok (.ireturn, 1) := by decide +kernel
theorem dX11_paste_110 : decode cX11_paste 110 = .ok (.iconst 0, 1) := by decide +kernel
theorem dX11_paste_111 : decode cX11_paste 111 = .ok (.istore 6, 2) := by decide +kernel
theorem dX11_paste_113 : decode cX11_paste 113 = .ok (.iload 6, 2) := by decide +kernel
theorem dX11_paste_115 : decode cX11_paste 115 = .ok (.iload 5, 2) := by decide +kernel
theorem dX11_paste_117 : decode cX11_paste 117 = .ok (.if_icmp .ge 30, 3) := by decide +kernel
theorem dX11_paste_120 : decode cX11_paste 120 = .ok (.aload_n 0, 1) := by decide +kernel
theorem dX11_paste_121 : decode cX11_paste 121 = .ok (.getfield 83, 3) := by decide +kernel
theorem dX11_paste_124 : decode cX11_paste 124 = .ok (.iload 6, 2) := by decide +kernel
theorem dX11_paste_126 : decode cX11_paste 126 = .ok (.aload_n 0, 1) := by decide +kernel
theorem dX11_paste_127 : decode cX11_paste 127 = .ok (.getfield 79, 3) := by decide +kernel
theorem dX11_paste_130 : decode cX11_paste 130 = .ok (.bipush 60, 2) := by decide +kernel
theorem dX11_paste_132 : decode cX11_paste 132 = .ok (.iload_n 1, 1) := by decide +kernel
theorem dX11_paste_133 : decode cX11_paste 133 = .ok (.imul, 1) := by decide +kernel
theorem dX11_paste_134 : decode cX11_paste 134 = .ok (.iload_n 2, 1) := by decide +kernel
theorem dX11_paste_135 : decode cX11_paste 135 = .ok (.iadd, 1) := by decide +kernel
theorem dX11_paste_136 : decode cX11_paste 136 = .ok (.iload 6, 2) := by decide +kernel
theorem dX11_paste_138 : decode cX11_paste 138 = .ok (.iadd, 1) := by decide +kernel
theorem dX11_paste_139 : decode cX11_paste 139 = .ok (.laload, 1) := by decide +kernel
theorem dX11_paste_140 : decode cX11_paste 140 = .ok (.lastore, 1) := by decide +kernel
theorem dX11_paste_141 : decode cX11_paste 141 = .ok (.iinc 6 1, 3) := by decide +kernel
theorem dX11_paste_144 : decode cX11_paste 144 = .ok (.goto (-31), 3) := by decide +kernel
theorem dX11_paste_147 : decode cX11_paste 147 = .ok (.iconst 0, 1) := by decide +kernel
theorem dX11_paste_148 : decode cX11_paste 148 = .ok (.istore 6, 2) := by decide +kernel
theorem dX11_paste_150 : decode cX11_paste 150 = .ok (.iload 6, 2) := by decide +kernel
theorem dX11_paste_152 : decode cX11_paste 152 = .ok (.iload 5, 2) := by decide +kernel
theorem dX11_paste_154 : decode cX11_paste 154 = .ok (.if_icmp .ge 31, 3) := by decide +kernel
theorem dX11_paste_157 : decode cX11_paste 157 = .ok (.aload_n 0, 1) := by decide +kernel
theorem dX11_paste_158 : decode cX11_paste 158 = .ok (.getfield 79, 3) := by decide +kernel
theorem dX11_paste_161 : decode cX11_paste 161 = .ok (.bipush 60, 2) := by decide +kernel
theorem dX11_paste_163 : decode cX11_paste 163 = .ok (.iload_n 3, 1) := by decide +kernel
theorem dX11_paste_164 : decode cX11_paste 164 = .ok (.imul, 1) := by decide +kernel
theorem dX11_paste_165 : decode cX11_paste 165 = .ok (.iload 4, 2) := by decide +kernel
theorem dX11_paste_167 : decode cX11_paste 167 = .ok (.iadd, 1) := by decide +kernel
theorem dX11_paste_168 : decode cX11_paste 168 = .ok (.iload 6, 2) := by decide +kernel
theorem dX11_paste_170 : decode cX11_paste 170 = .ok (.iadd, 1) := by decide +kernel
theorem dX11_paste_171 : decode cX11_paste 171 = .ok (.aload_n 0, 1) := by decide +kernel
theorem dX11_paste_172 : decode cX11_paste 172 = .ok (.getfield 83, 3) := by decide +kernel
theorem dX11_paste_175 : decode cX11_paste 175 = .ok (.iload 6, 2) := by decide +kernel
theorem dX11_paste_177 : decode cX11_paste 177 = .ok (.laload, 1) := by decide +kernel
theorem dX11_paste_178 : decode cX11_paste 178 = .ok (.lastore, 1) := by decide +kernel
theorem dX11_paste_179 : decode cX11_paste 179 = .ok (.iinc 6 1, 3) := by decide +kernel
theorem dX11_paste_182 : decode cX11_paste 182 = .ok (.goto (-32), 3) := by decide +kernel
theorem dX11_paste_185 : decode cX11_paste 185 = .ok (.iconst 0, 1) := by decide +kernel
theorem dX11_paste_186 : decode cX11_paste 186 = .ok (.ireturn, 1) := by decide +kernel
theorem dX11_row_0 : decode cX11_row 0 = .ok (.iload_n 1, 1) := by decide +kernel
theorem dX11_row_1 : decode cX11_row 1 = .ok (.invokestatic 425, 3) := by decide +kernel
theorem dX11_row_4 : decode cX11_row 4 = .ok (.ifCond .eq 21, 3) := by decide +kernel
theorem dX11_row_7 : decode cX11_row 7 = .ok (.iload_n 2, 1) := by decide +kernel
theorem dX11_row_8 : decode cX11_row 8 = .ok (.i2l, 1) := by decide +kernel
theorem dX11_row_9 : decode cX11_row 9 = .ok (.lconst 0, 1) := by decide +kernel
theorem dX11_row_10 : decode cX11_row 10 = .ok (.ldc2_w 241, 3) := by decide +kernel
theorem dX11_row_13 : decode cX11_row 13 = .ok (.invokestatic 91, 3) := by decide +kernel
theorem dX11_row_16 : decode cX11_row 16 = .ok (.ifCond .eq 9, 3) := by decide +kernel
theorem dX11_row_19 : decode cX11_row 19 = .ok (.iload_n 3, 1) := by decide +kernel
theorem dX11_row_20 : decode cX11_row 20 = .ok (.bipush 60, 2) := by decide +kernel
theorem dX11_row_22 : decode cX11_row 22 = .ok (.if_icmp .le 6, 3) := by decide +kernel
theorem dX11_row_25 : decode cX11_row 25 = .ok (.bipush (-2), 2) := by decide +kernel
theorem dX11_row_27 : decode cX11_row 27 = .ok (.ireturn, 1) := by decide +kernel
theorem dX11_row_28 : decode cX11_row 28 = .ok (.iload_n 3, 1) := by decide +kernel
theorem dX11_row_29 : decode cX11_row 29 = .ok (.ifCond .ge 6, 3) := by decide +kernel
theorem dX11_row_32 : decode cX11_row 32 = .ok (.bipush (-3), 2) := by decide +kernel
theorem dX11_row_34 : decode cX11_row 34 = .ok (.ireturn, 1) := by decide +kernel
theorem dX11_row_35 : decode cX11_row 35 = .ok (.aload_n 0, 1) := by decide +kernel
theorem dX11_row_36 : decode cX11_row 36 = .ok (.getfield 73, 3) := by decide +kernel
theorem dX11_row_39 : decode cX11_row 39 = .ok (.iload_n 1, 1) := by decide +kernel
theorem dX11_row_40 : decode cX11_row 40 = .ok (.iload_n 3, 1) := by decide +kernel
theorem dX11_row_41 : decode cX11_row 41 = .ok (.iastore, 1) := by decide +kernel
theorem dX11_row_42 : decode cX11_row 42 = .ok (.aload_n 0, 1) := by decide +kernel
theorem dX11_row_43 : decode cX11_row 43 = .ok (.getfield 76, 3) := by decide +kernel
theorem dX11_row_46 : decode cX11_row 46 = .ok (.iload_n 1, 1) := by decide +kernel
theorem dX11_row_47 : decode cX11_row 47 = .ok (.iload_n 2, 1) := by decide +kernel
theorem dX11_row_48 : decode cX11_row 48 = .ok (.iastore, 1) := by decide +kernel
theorem dX11_row_49 : decode cX11_row 49 = .ok (.iconst 0, 1) := by decide +kernel
theorem dX11_row_50 : decode cX11_row 50 = .ok (.istore 4, 2) := by decide +kernel
theorem dX11_row_52 : decode cX11_row 52 = .ok (.iload 4, 2) := by decide +kernel
theorem dX11_row_54 : decode cX11_row 54 = .ok (.bipush 60, 2) := by decide +kernel
theorem dX11_row_56 : decode cX11_row 56 = .ok (.if_icmp .ge 22, 3) := by decide +kernel
theorem dX11_row_59 : decode cX11_row 59 = .ok (.aload_n 0, 1) := by decide +kernel
theorem dX11_row_60 : decode cX11_row 60 = .ok (.getfield 79, 3) := by decide +kernel
theorem dX11_row_63 : decode cX11_row 63 = .ok (.bipush 60, 2) := by decide +kernel
theorem dX11_row_65 : decode cX11_row 65 = .ok (.iload_n 1, 1) := by decide +kernel
theorem dX11_row_66 : decode cX11_row 66 = .ok (.imul, 1) := by decide +kernel
theorem dX11_row_67 : decode cX11_row 67 = .ok (.iload 4, 2) := by decide +kernel
theorem dX11_row_69 : decode cX11_row 69 = .ok (.iadd, 1) := by decide +kernel
theorem dX11_row_70 : decode cX11_row 70 = .ok (.lconst 0, 1) := by decide +kernel
theorem dX11_row_71 : decode cX11_row 71 = .ok (.lastore, 1) := by decide +kernel
theorem dX11_row_72 : decode cX11_row 72 = .ok (.iinc 4 1, 3) := by decide +kernel
theorem dX11_row_75 : decode cX11_row 75 = .ok (.goto (-23), 3) := by decide +kernel
theorem dX11_row_78 : decode cX11_row 78 = .ok (.iconst 0, 1) := by decide +kernel
theorem dX11_row_79 : decode cX11_row 79 = .ok (.ireturn, 1) := by decide +kernel
theorem dX11_image_0 : decode cX11_image 0 = .ok (.iload_n 1, 1) := by decide +kernel
theorem dX11_image_1 : decode cX11_image 1 = .ok (.i2l, 1) := by decide +kernel
theorem dX11_image_2 : decode cX11_image 2 = .ok (.lconst 0, 1) := by decide +kernel
theorem dX11_image_3 : decode cX11_image 3 = .ok (.ldc2_w 89, 3) := by decide +kernel
theorem dX11_image_6 : decode cX11_image 6 = .ok (.invokestatic 91, 3) := by decide +kernel
theorem dX11_image_9 : decode cX11_image 9 = .ok (.ifCond .ne 6, 3) := by decide +kernel
theorem dX11_image_12 : decode cX11_image 12 = .ok (.bipush (-2), 2) := by decide +kernel
theorem dX11_image_14 : decode cX11_image 14 = .ok (.ireturn, 1) := by decide +kernel
theorem dX11_image_15 : decode cX11_image 15 = .ok (.iconst 0, 1) := by decide +kernel
theorem dX11_image_16 : decode cX11_image 16 = .ok (.istore_n 2, 1) := by decide +kernel
theorem dX11_image_17 : decode cX11_image 17 = .ok (.iload_n 2, 1) := by decide +kernel
theorem dX11_image_18 : decode cX11_image 18 = .ok (.bipush 99, 2) := by decide +kernel
theorem dX11_image_20 : decode cX11_image 20 = .ok (.if_icmp .ge 26, 3) := by decide +kernel
theorem dX11_image_23 : decode cX11_image 23 = .ok (.aload_n 0, 1) := by decide +kernel
theorem dX11_image_24 : decode cX11_image 24 = .ok (.getfield 13, 3) := by decide +kernel
theorem dX11_image_27 : decode cX11_image 27 = .ok (.bipush 99, 2) := by decide +kernel
theorem dX11_image_29 : decode cX11_image 29 = .ok (.iload_n 1, 1) := by decide +kernel
theorem dX11_image_30 : decode cX11_image 30 = .ok (.imul, 1) := by decide +kernel
theorem dX11_image_31 : decode cX11_image 31 = .ok (.iload_n 2, 1) := by decide +kernel
theorem dX11_image_32 : decode cX11_image 32 = .ok (.iadd, 1) := by decide +kernel
theorem dX11_image_33 : decode cX11_image 33 = .ok (.aload_n 0, 1) := by decide +kernel
theorem dX11_image_34 : decode cX11_image 34 = .ok (.getfield 9, 3) := by decide +kernel
theorem dX11_image_37 : decode cX11_image 37 = .ok (.iload_n 2, 1) := by decide +kernel
theorem dX11_image_38 : decode cX11_image 38 = .ok (.iaload, 1) := by decide +kernel
theorem dX11_image_39 : decode cX11_image 39 = .ok (.iastore, 1) := by decide +kernel
theorem dX11_image_40 : decode cX11_image 40 = .ok (.iinc 2 1, 3) := by decide +kernel
theorem dX11_image_43 : decode cX11_image 43 = .ok (.goto (-26), 3) := by decide +kernel
theorem dX11_image_46 : decode cX11_image 46 = .ok (.aload_n 0, 1) := by decide +kernel
theorem dX11_image_47 : decode cX11_image 47 = .ok (.getfield 16, 3) := by decide +kernel
theorem dX11_image_50 : decode cX11_image 50 = .ok (.iload_n 1, 1) := by decide +kernel
theorem dX11_image_51 : decode cX11_image 51 = .ok (.iconst 1, 1) := by decide +kernel
theorem dX11_image_52 : decode cX11_image 52 = .ok (.bastore, 1) := by decide +kernel
theorem dX11_image_53 : decode cX11_image 53 = .ok (.iconst 0, 1) := by decide +kernel
theorem dX11_image_54 : decode cX11_image 54 = .ok (.ireturn, 1) := by decide +kernel
theorem dX11_back_0 : decode cX11_back 0 = .ok (.iload_n 1, 1) := by decide +kernel
theorem dX11_back_1 : decode cX11_back 1 = .ok (.i2l, 1) := by decide +kernel
theorem dX11_back_2 : decode cX11_back 2 = .ok (.lconst 0, 1) := by decide +kernel
theorem dX11_back_3 : decode cX11_back 3 = .ok (.ldc2_w 89, 3) := by decide +kernel
theorem dX11_back_6 : decode cX11_back 6 = .ok (.invokestatic 91, 3) := by decide +kernel
theorem dX11_back_9 : decode cX11_back 9 = .ok (.ifCond .ne 6, 3) := by decide +kernel
theorem dX11_back_12 : decode cX11_back 12 = .ok (.bipush (-2), 2) := by decide +kernel
theorem dX11_back_14 : decode cX11_back 14 = .ok (.ireturn, 1) := by decide +kernel
theorem dX11_back_15 : decode cX11_back 15 = .ok (.aload_n 0, 1) := by decide +kernel
theorem dX11_back_16 : decode cX11_back 16 = .ok (.getfield 16, 3) := by decide +kernel
theorem dX11_back_19 : decode cX11_back 19 = .ok (.iload_n 1, 1) := by decide +kernel
theorem dX11_back_20 : decode cX11_back 20 = .ok (.baload, 1) := by decide +kernel
theorem dX11_back_21 : decode cX11_back 21 = .ok (.ifCond .ne 6, 3) := by decide +kernel
theorem dX11_back_24 : decode cX11_back 24 = .ok (.bipush (-6), 2) := by decide +kernel
theorem dX11_back_26 : decode cX11_back 26 = .ok (.ireturn, 1) := by decide +kernel
theorem dX11_back_27 : decode cX11_back 27 = .ok (.iconst 0, 1) := by decide +kernel
theorem dX11_back_28 : decode cX11_back 28 = .ok (.istore_n 2, 1) := by decide +kernel
theorem dX11_back_29 : decode cX11_back 29 = .ok (.iload_n 2, 1) := by decide +kernel
theorem dX11_back_30 : decode cX11_back 30 = .ok (.bipush 99, 2) := by decide +kernel
theorem dX11_back_32 : decode cX11_back 32 = .ok (.if_icmp .ge 26, 3) := by decide +kernel
theorem dX11_back_35 : decode cX11_back 35 = .ok (.aload_n 0, 1) := by decide +kernel
theorem dX11_back_36 : decode cX11_back 36 = .ok (.getfield 9, 3) := by decide +kernel
theorem dX11_back_39 : decode cX11_back 39 = .ok (.iload_n 2, 1) := by decide +kernel
theorem dX11_back_40 : decode cX11_back 40 = .ok (.aload_n 0, 1) := by decide +kernel
theorem dX11_back_41 : decode cX11_back 41 = .ok (.getfield 13, 3) := by decide +kernel
theorem dX11_back_44 : decode cX11_back 44 = .ok (.bipush 99, 2) := by decide +kernel
theorem dX11_back_46 : decode cX11_back 46 = .ok (.iload_n 1, 1) := by decide +kernel
theorem dX11_back_47 : decode cX11_back 47 = .ok (.imul, 1) := by decide +kernel
theorem dX11_back_48 : decode cX11_back 48 = .ok (.iload_n 2, 1) := by decide +kernel
theorem dX11_back_49 : decode cX11_back 49 = .ok (.iadd, 1) := by decide +kernel
theorem dX11_back_50 : decode cX11_back 50 = .ok (.iaload, 1) := by decide +kernel
theorem dX11_back_51 : decode cX11_back 51 = .ok (.iastore, 1) := by decide +kernel
theorem dX11_back_52 : decode cX11_back 52 = .ok (.iinc 2 1, 3) := by decide +kernel
theorem dX11_back_55 : decode cX11_back 55 = .ok (.goto (-26), 3) := by decide +kernel
theorem dX11_back_58 : decode cX11_back 58 = .ok (.iconst 0, 1) := by decide +kernel
theorem dX11_back_59 : decode cX11_back 59 = .ok (.ireturn, 1) := by decide +kernel
theorem dX11_good_0 : decode cX11_good 0 = .ok (.aload_n 0, 1) := by decide +kernel
theorem dX11_good_1 : decode cX11_good 1 = .ok (.getfield 143, 3) := by decide +kernel
theorem dX11_good_4 : decode cX11_good 4 = .ok (.ifCond .ne 7, 3) := by decide +kernel
theorem dX11_good_7 : decode cX11_good 7 = .ok (.iconst 1, 1) := by decide +kernel
theorem dX11_good_8 : decode cX11_good 8 = .ok (.goto 4, 3) := by decide +kernel
theorem dX11_good_11 : decode cX11_good 11 = .ok (.iconst 0, 1) := by decide +kernel
theorem dX11_good_12 : decode cX11_good 12 = .ok (.ireturn, 1) := by decide +kernel
theorem dX11_see_0 : decode cX11_see 0 = .ok (.iload_n 1, 1) := by decide +kernel
theorem dX11_see_1 : decode cX11_see 1 = .ok (.aload_n 0, 1) := by decide +kernel
theorem dX11_see_2 : decode cX11_see 2 = .ok (.getfield 109, 3) := by decide +kernel
theorem dX11_see_5 : decode cX11_see 5 = .ok (.if_icmp .ge 16, 3) := by decide +kernel
theorem dX11_see_8 : decode cX11_see 8 = .ok (.aload_n 0, 1) := by decide +kernel
theorem dX11_see_9 : decode cX11_see 9 = .ok (.getfield 20, 3) := by decide +kernel
theorem dX11_see_12 : decode cX11_see 12 = .ok (.iload_n 1, 1) := by decide +kernel
theorem dX11_see_13 : decode cX11_see 13 = .ok (.baload, 1) := by decide +kernel
theorem dX11_see_14 : decode cX11_see 14 = .ok (.sipush 255, 3) := by decide +kernel
theorem dX11_see_17 : decode cX11_see 17 = .ok (.iand, 1) := by decide +kernel
theorem dX11_see_18 : decode cX11_see 18 = .ok (.goto 4, 3) := by decide +kernel
theorem dX11_see_21 : decode cX11_see 21 = .ok (.iconst (-1), 1) := by decide +kernel
theorem dX11_see_22 : decode cX11_see 22 = .ok (.ireturn, 1) := by decide +kernel
theorem dX11_advance_0 : decode cX11_advance 0 = .ok (.aload_n 0, 1) := by decide +kernel
theorem dX11_advance_1 : decode cX11_advance 1 = .ok (.aload_n 0, 1) := by decide +kernel
theorem dX11_advance_2 : decode cX11_advance 2 = .ok (.getfield 112, 3) := by decide +kernel
theorem dX11_advance_5 : decode cX11_advance 5 = .ok (.invokevirtual 115, 3) := by decide +kernel
theorem dX11_advance_8 : decode cX11_advance 8 = .ok (.bipush 32, 2) := by decide +kernel
theorem dX11_advance_10 : decode cX11_advance 10 = .ok (.if_icmp .eq 16, 3) := by decide +kernel
theorem dX11_advance_13 : decode cX11_advance 13 = .ok (.aload_n 0, 1) := by decide +kernel
theorem dX11_advance_14 : decode cX11_advance 14 = .ok (.aload_n 0, 1) := by decide +kernel
theorem dX11_advance_15 : decode cX11_advance 15 = .ok (.getfield 112, 3) := by decide +kernel
theorem dX11_advance_18 : decode cX11_advance 18 = .ok (.invokevirtual 115, 3) := by decide +kernel
theorem dX11_advance_21 : decode cX11_advance 21 = .ok (.bipush 10, 2) := by decide +kernel
theorem dX11_advance_23 : decode cX11_advance 23 = .ok (.if_icmp .ne 16, 3) := by decide +kernel
theorem dX11_advance_26 : decode cX11_advance 26 = .ok (.aload_n 0, 1) := by decide +kernel
theorem dX11_advance_27 : decode cX11_advance 27 = .ok (.dup, 1) := by decide +kernel
theorem dX11_advance_28 : decode cX11_advance 28 = .ok (.getfield 112, 3) := by decide +kernel
theorem dX11_advance_31 : decode cX11_advance 31 = .ok (.iconst 1, 1) := by decide +kernel
theorem dX11_advance_32 : decode cX11_advance 32 = .ok (.iadd, 1) := by decide +kernel
theorem dX11_advance_33 : decode cX11_advance 33 = .ok (.putfield 112, 3) := by decide +kernel
theorem dX11_advance_36 : decode cX11_advance 36 = .ok (.goto (-36), 3) := by decide +kernel
theorem dX11_advance_39 : decode cX11_advance 39 = .ok (.aload_n 0, 1) := by decide +kernel
theorem dX11_advance_40 : decode cX11_advance 40 = .ok (.aload_n 0, 1) := by decide +kernel
theorem dX11_advance_41 : decode cX11_advance 41 = .ok (.getfield 112, 3) := by decide +kernel
theorem dX11_advance_44 : decode cX11_advance 44 = .ok (.putfield 119, 3) := by decide +kernel
theorem dX11_advance_47 : decode cX11_advance 47 = .ok (.aload_n 0, 1) := by decide +kernel
theorem dX11_advance_48 : decode cX11_advance 48 = .ok (.aload_n 0, 1) := by decide +kernel
theorem dX11_advance_49 : decode cX11_advance 49 = .ok (.getfield 112, 3) := by decide +kernel
theorem dX11_advance_52 : decode cX11_advance 52 = .ok (.invokevirtual 115, 3) := by decide +kernel
theorem dX11_advance_55 : decode cX11_advance 55 = .ok (.istore_n 1, 1) := by decide +kernel
theorem dX11_advance_56 : decode cX11_advance 56 = .ok (.iload_n 1, 1) := by decide +kernel
theorem dX11_advance_57 : decode cX11_advance 57 = .ok (.iconst (-1), 1) := by decide +kernel
theorem dX11_advance_58 : decode cX11_advance 58 = .ok (.if_icmp .ne 11, 3) := by decide +kernel
theorem dX11_advance_61 : decode cX11_advance 61 = .ok (.aload_n 0, 1) := by decide +kernel
theorem dX11_advance_62 : decode cX11_advance 62 = .ok (.iconst 0, 1) := by decide +kernel
theorem dX11_advance_63 : decode cX11_advance 63 = .ok (.putfield 122, 3) := by decide +kernel
theorem dX11_advance_66 : decode cX11_advance 66 = .ok (.goto 173, 3) := by decide +kernel
theorem dX11_advance_69 : decode cX11_advance 69 = .ok (.iload_n 1, 1) := by decide +kernel
theorem dX11_advance_70 : decode cX11_advance 70 = .ok (.i2l, 1) := by decide +kernel
theorem dX11_advance_71 : decode cX11_advance 71 = .ok (.ldc2_w 125, 3) := by decide +kernel
theorem dX11_advance_74 : decode cX11_advance 74 = .ok (.ldc2_w 127, 3) := by decide +kernel
theorem dX11_advance_77 : decode cX11_advance 77 = .ok (.invokestatic 91, 3) := by decide +kernel
theorem dX11_advance_80 : decode cX11_advance 80 = .ok (.ifCond .eq 45, 3) := by decide +kernel
theorem dX11_advance_83 : decode cX11_advance 83 = .ok (.aload_n 0, 1) := by decide +kernel
theorem dX11_advance_84 : decode cX11_advance 84 = .ok (.aload_n 0, 1) := by decide +kernel
theorem dX11_advance_85 : decode cX11_advance 85 = .ok (.getfield 112, 3) := by decide +kernel
theorem dX11_advance_88 : decode cX11_advance 88 = .ok (.invokevirtual 115, 3) := by decide +kernel
theorem dX11_advance_91 : decode cX11_advance 91 = .ok (.i2l, 1) := by decide +kernel
theorem dX11_advance_92 : decode cX11_advance 92 = .ok (.ldc2_w 125, 3) := by decide +kernel
theorem dX11_advance_95 : decode cX11_advance 95 = .ok (.ldc2_w 127, 3) := by decide +kernel
theorem dX11_advance_98 : decode cX11_advance 98 = .ok (.invokestatic 91, 3) := by decide +kernel
theorem dX11_advance_101 : decode cX11_advance 101 = .ok (.ifCond .eq 16, 3) := by decide +kernel
theorem dX11_advance_104 : decode cX11_advance 104 = .ok (.aload_n 0, 1) := by decide +kernel
theorem dX11_advance_105 : decode cX11_advance 105 = .ok (.dup, 1) := by decide +kernel
theorem dX11_advance_106 : decode cX11_advance 106 = .ok (.getfield 112, 3) := by decide +kernel
theorem dX11_advance_109 : decode cX11_advance 109 = .ok (.iconst 1, 1) := by decide +kernel
theorem dX11_advance_110 : decode cX11_advance 110 = .ok (.iadd, 1) := by decide +kernel
theorem dX11_advance_111 : decode cX11_advance 111 = .ok (.putfield 112, 3) := by decide +kernel
theorem dX11_advance_114 : decode cX11_advance 114 = .ok (.goto (-31), 3) := by decide +kernel
theorem dX11_advance_117 : decode cX11_advance 117 = .ok (.aload_n 0, 1) := by decide +kernel
theorem dX11_advance_118 : decode cX11_advance 118 = .ok (.iconst 1, 1) := by decide +kernel
theorem dX11_advance_119 : decode cX11_advance 119 = .ok (.putfield 122, 3) := by decide +kernel
theorem dX11_advance_122 : decode cX11_advance 122 = .ok (.goto 117, 3) := by decide +kernel
theorem dX11_advance_125 : decode cX11_advance 125 = .ok (.iload_n 1, 1) := by decide +kernel
theorem dX11_advance_126 : decode cX11_advance 126 = .ok (.i2l, 1) := by decide +kernel
theorem dX11_advance_127 : decode cX11_advance 127 = .ok (.ldc2_w 129, 3) := by decide +kernel
theorem dX11_advance_130 : decode cX11_advance 130 = .ok (.ldc2_w 131, 3) := by decide +kernel
theorem dX11_advance_133 : decode cX11_advance 133 = .ok (.invokestatic 91, 3) := by decide +kernel
theorem dX11_advance_136 : decode cX11_advance 136 = .ok (.ifCond .eq 78, 3) := by decide +kernel
theorem dX11_advance_139 : decode cX11_advance 139 = .ok (.aload_n 0, 1) := by decide +kernel
theorem dX11_advance_140 : decode cX11_advance 140 = .ok (.iconst 0, 1) := by decide +kernel
theorem dX11_advance_141 : decode cX11_advance 141 = .ok (.putfield 133, 3) := by decide +kernel
theorem dX11_advance_144 : decode cX11_advance 144 = .ok (.aload_n 0, 1) := by decide +kernel
theorem dX11_advance_145 : decode cX11_advance 145 = .ok (.aload_n 0, 1) := by decide +kernel
theorem dX11_advance_146 : decode cX11_advance 146 = .ok (.getfield 112, 3) := by decide +kernel
theorem dX11_advance_149 : decode cX11_advance 149 = .ok (.invokevirtual 115, 3) := by decide +kernel
theorem dX11_advance_152 : decode cX11_advance 152 = .ok (.i2l, 1) := by decide +kernel
theorem dX11_advance_153 : decode cX11_advance 153 = .ok (.ldc2_w 129, 3) := by decide +kernel
theorem dX11_advance_156 : decode cX11_advance 156 = .ok (.ldc2_w 131, 3) := by decide +kernel
theorem dX11_advance_159 : decode cX11_advance 159 = .ok (.invokestatic 91, 3) := by decide +kernel
theorem dX11_advance_162 : decode cX11_advance 162 = .ok (.ifCond .eq 44, 3) := by decide +kernel
theorem dX11_advance_165 : decode cX11_advance 165 = .ok (.aload_n 0, 1) := by decide +kernel
theorem dX11_advance_166 : decode cX11_advance 166 = .ok (.ldc 136, 2) := by decide +kernel
theorem dX11_advance_168 : decode cX11_advance 168 = .ok (.bipush 10, 2) := by decide +kernel
theorem dX11_advance_170 : decode cX11_advance 170 = .ok (.aload_n 0, 1) := by decide +kernel
theorem dX11_advance_171 : decode cX11_advance 171 = .ok (.getfield 133, 3) := by decide +kernel
theorem dX11_advance_174 : decode cX11_advance 174 = .ok (.imul, 1) := by decide +kernel
theorem dX11_advance_175 : decode cX11_advance 175 = .ok (.aload_n 0, 1) := by decide +kernel
theorem dX11_advance_176 : decode cX11_advance 176 = .ok (.aload_n 0, 1) := by decide +kernel
theorem dX11_advance_177 : decode cX11_advance 177 = .ok (.getfield 112, 3) := by decide +kernel
theorem dX11_advance_180 : decode cX11_advance 180 = .ok (.invokevirtual 115, 3) := by decide +kernel
theorem dX11_advance_183 : decode cX11_advance 183 = .ok (.iadd, 1) := by decide +kernel
theorem dX11_advance_184 : decode cX11_advance 184 = .ok (.bipush 48, 2) := by decide +kernel
theorem dX11_advance_186 : decode cX11_advance 186 = .ok (.isub, 1) := by decide +kernel
theorem dX11_advance_187 : decode cX11_advance 187 = .ok (.invokestatic 137, 3) := by decide +kernel
theorem dX11_advance_190 : decode cX11_advance 190 = .ok (.putfield 133, 3) := by decide +kernel
theorem dX11_advance_193 : decode cX11_advance 193 = .ok (.aload_n 0, 1) := by decide +kernel
theorem dX11_advance_194 : decode cX11_advance 194 = .ok (.dup, 1) := by decide +kernel
theorem dX11_advance_195 : decode cX11_advance 195 = .ok (.getfield 112, 3) := by decide +kernel
theorem dX11_advance_198 : decode cX11_advance 198 = .ok (.iconst 1, 1) := by decide +kernel
theorem dX11_advance_199 : decode cX11_advance 199 = .ok (.iadd, 1) := by decide +kernel
theorem dX11_advance_200 : decode cX11_advance 200 = .ok (.putfield 112, 3) := by decide +kernel
theorem dX11_advance_203 : decode cX11_advance 203 = .ok (.goto (-59), 3) := by decide +kernel
theorem dX11_advance_206 : decode cX11_advance 206 = .ok (.aload_n 0, 1) := by decide +kernel
theorem dX11_advance_207 : decode cX11_advance 207 = .ok (.iconst 2, 1) := by decide +kernel
theorem dX11_advance_208 : decode cX11_advance 208 = .ok (.putfield 122, 3) := by decide +kernel
theorem dX11_advance_211 : decode cX11_advance 211 = .ok (.goto 28, 3) := by decide +kernel
theorem dX11_advance_214 : decode cX11_advance 214 = .ok (.aload_n 0, 1) := by decide +kernel
theorem dX11_advance_215 : decode cX11_advance 215 = .ok (.iload_n 1, 1) := by decide +kernel
theorem dX11_advance_216 : decode cX11_advance 216 = .ok (.bipush 59, 2) := by decide +kernel
theorem dX11_advance_218 : decode cX11_advance 218 = .ok (.if_icmp .ne 7, 3) := by decide +kernel
theorem dX11_advance_221 : decode cX11_advance 221 = .ok (.iconst 3, 1) := by decide +kernel
theorem dX11_advance_222 : decode cX11_advance 222 = .ok (.goto 4, 3) := by decide +kernel
theorem dX11_advance_225 : decode cX11_advance 225 = .ok (.iconst 4, 1) := by decide +kernel
theorem dX11_advance_226 : decode cX11_advance 226 = .ok (.putfield 122, 3) := by decide +kernel
theorem dX11_advance_229 : decode cX11_advance 229 = .ok (.aload_n 0, 1) := by decide +kernel
theorem dX11_advance_230 : decode cX11_advance 230 = .ok (.dup, 1) := by decide +kernel
theorem dX11_advance_231 : decode cX11_advance 231 = .ok (.getfield 112, 3) := by decide +kernel
theorem dX11_advance_234 : decode cX11_advance 234 = .ok (.iconst 1, 1) := by decide +kernel
theorem dX11_advance_235 : decode cX11_advance 235 = .ok (.iadd, 1) := by decide +kernel
theorem dX11_advance_236 : decode cX11_advance 236 = .ok (.putfield 112, 3) := by decide +kernel
theorem dX11_advance_239 : decode cX11_advance 239 = .ok (.return_, 1) := by decide +kernel
theorem dX11_garden_0 : decode cX11_garden 0 = .ok (.aload_n 0, 1) := by decide +kernel
theorem dX11_garden_1 : decode cX11_garden 1 = .ok (.aload_n 0, 1) := by decide +kernel
theorem dX11_garden_2 : decode cX11_garden 2 = .ok (.getfield 106, 3) := by decide +kernel
theorem dX11_garden_5 : decode cX11_garden 5 = .ok (.putfield 109, 3) := by decide +kernel
theorem dX11_garden_8 : decode cX11_garden 8 = .ok (.aload_n 0, 1) := by decide +kernel
theorem dX11_garden_9 : decode cX11_garden 9 = .ok (.iconst 0, 1) := by decide +kernel
theorem dX11_garden_10 : decode cX11_garden 10 = .ok (.putfield 106, 3) := by decide +kernel
theorem dX11_garden_13 : decode cX11_garden 13 = .ok (.aload_n 0, 1) := by decide +kernel
theorem dX11_garden_14 : decode cX11_garden 14 = .ok (.iconst 0, 1) := by decide +kernel
theorem dX11_garden_15 : decode cX11_garden 15 = .ok (.putfield 112, 3) := by decide +kernel
theorem dX11_garden_18 : decode cX11_garden 18 = .ok (.aload_n 0, 1) := by decide +kernel
theorem dX11_garden_19 : decode cX11_garden 19 = .ok (.iconst 0, 1) := by decide +kernel
theorem dX11_garden_20 : decode cX11_garden 20 = .ok (.putfield 143, 3) := by decide +kernel
theorem dX11_garden_23 : decode cX11_garden 23 = .ok (.aload_n 0, 1) := by decide +kernel
theorem dX11_garden_24 : decode cX11_garden 24 = .ok (.iconst (-1), 1) := by decide +kernel
theorem dX11_garden_25 : decode cX11_garden 25 = .ok (.putfield 27, 3) := by decide +kernel
theorem dX11_garden_28 : decode cX11_garden 28 = .ok (.iconst 0, 1) := by decide +kernel
theorem dX11_garden_29 : decode cX11_garden 29 = .ok (.istore_n 1, 1) := by decide +kernel
theorem dX11_garden_30 : decode cX11_garden 30 = .ok (.iload_n 1, 1) := by decide +kernel
theorem dX11_garden_31 : decode cX11_garden 31 = .ok (.bipush 99, 2) := by decide +kernel
theorem dX11_garden_33 : decode cX11_garden 33 = .ok (.if_icmp .ge 16, 3) := by decide +kernel
theorem dX11_garden_36 : decode cX11_garden 36 = .ok (.aload_n 0, 1) := by decide +kernel
theorem dX11_garden_37 : decode cX11_garden 37 = .ok (.getfield 31, 3) := by decide +kernel
theorem dX11_garden_40 : decode cX11_garden 40 = .ok (.iload_n 1, 1) := by decide +kernel
theorem dX11_garden_41 : decode cX11_garden 41 = .ok (.iconst 0, 1) := by decide +kernel
theorem dX11_garden_42 : decode cX11_garden 42 = .ok (.iastore, 1) := by decide +kernel
theorem dX11_garden_43 : decode cX11_garden 43 = .ok (.iinc 1 1, 3) := by decide +kernel
theorem dX11_garden_46 : decode cX11_garden 46 = .ok (.goto (-16), 3) := by decide +kernel
theorem dX11_garden_49 : decode cX11_garden 49 = .ok (.aload_n 0, 1) := by decide +kernel
theorem dX11_garden_50 : decode cX11_garden 50 = .ok (.invokevirtual 162, 3) := by decide +kernel
theorem dX11_garden_53 : decode cX11_garden 53 = .ok (.aload_n 0, 1) := by decide +kernel
theorem dX11_garden_54 : decode cX11_garden 54 = .ok (.invokevirtual 146, 3) := by decide +kernel
theorem dX11_garden_57 : decode cX11_garden 57 = .ok (.ifCond .eq 17, 3) := by decide +kernel
theorem dX11_garden_60 : decode cX11_garden 60 = .ok (.aload_n 0, 1) := by decide +kernel
theorem dX11_garden_61 : decode cX11_garden 61 = .ok (.getfield 122, 3) := by decide +kernel
theorem dX11_garden_64 : decode cX11_garden 64 = .ok (.ifCond .eq 10, 3) := by decide +kernel
theorem dX11_garden_67 : decode cX11_garden 67 = .ok (.aload_n 0, 1) := by decide +kernel
theorem dX11_garden_68 : decode cX11_garden 68 = .ok (.invokevirtual 224, 3) := by decide +kernel
theorem dX11_garden_71 : decode cX11_garden 71 = .ok (.goto (-18), 3) := by decide +kernel
theorem dX11_garden_74 : decode cX11_garden 74 = .ok (.aload_n 0, 1) := by decide +kernel
theorem dX11_garden_75 : decode cX11_garden 75 = .ok (.invokevirtual 146, 3) := by decide +kernel
theorem dX11_garden_78 : decode cX11_garden 78 = .ok (.ifCond .ne 6, 3) := by decide +kernel
theorem dX11_garden_81 : decode cX11_garden 81 = .ok (.bipush (-4), 2) := by decide +kernel
theorem dX11_garden_83 : decode cX11_garden 83 = .ok (.ireturn, 1) := by decide +kernel
theorem dX11_garden_84 : decode cX11_garden 84 = .ok (.iconst 0, 1) := by decide +kernel
theorem dX11_garden_85 : decode cX11_garden 85 = .ok (.istore_n 1, 1) := by decide +kernel
theorem dX11_garden_86 : decode cX11_garden 86 = .ok (.iload_n 1, 1) := by decide +kernel
theorem dX11_garden_87 : decode cX11_garden 87 = .ok (.bipush 99, 2) := by decide +kernel
theorem dX11_garden_89 : decode cX11_garden 89 = .ok (.if_icmp .ge 21, 3) := by decide +kernel
theorem dX11_garden_92 : decode cX11_garden 92 = .ok (.aload_n 0, 1) := by decide +kernel
theorem dX11_garden_93 : decode cX11_garden 93 = .ok (.getfield 9, 3) := by decide +kernel
theorem dX11_garden_96 : decode cX11_garden 96 = .ok (.iload_n 1, 1) := by decide +kernel
theorem dX11_garden_97 : decode cX11_garden 97 = .ok (.aload_n 0, 1) := by decide +kernel
theorem dX11_garden_98 : decode cX11_garden 98 = .ok (.getfield 31, 3) := by decide +kernel
theorem dX11_garden_101 : decode cX11_garden 101 = .ok (.iload_n 1, 1) := by decide +kernel
theorem dX11_garden_102 : decode cX11_garden 102 = .ok (.iaload, 1) := by decide +kernel
theorem dX11_garden_103 : decode cX11_garden 103 = .ok (.iastore, 1) := by decide +kernel
theorem dX11_garden_104 : decode cX11_garden 104 = .ok (.iinc 1 1, 3) := by decide +kernel
theorem dX11_garden_107 : decode cX11_garden 107 = .ok (.goto (-21), 3) := by decide +kernel
theorem dX11_garden_110 : decode cX11_garden 110 = .ok (.aload_n 0, 1) := by decide +kernel
theorem dX11_garden_111 : decode cX11_garden 111 = .ok (.getfield 9, 3) := by decide +kernel
theorem dX11_garden_114 : decode cX11_garden 114 = .ok (.bipush 8, 2) := by decide +kernel
theorem dX11_garden_116 : decode cX11_garden 116 = .ok (.iaload, 1) := by decide +kernel
theorem dX11_garden_117 : decode cX11_garden 117 = .ok (.ireturn, 1) := by decide +kernel

theorem lfctX11_fault_0 (p0 : Int32) (c_1 : ¬ p0 = 0) (c_2 : ¬ p0 = 1) : (-1) = (faultAns p0) := (by
  simp only [faultAns]
  repeat' split
  all_goals first | rfl | assumption | (exfalso; simp only [fa_lt, fa_le, fa_eq, fa_lt64, fa_le64, fa_eq64, Int32.toInt_toInt64, tz_0, tz_1, tz_2, tz_3, tz_4, tz_5, tz_6, tz_7, tz_8, tz_9, tz_10, tz_60, tz_m1, tl_0, tl_1, tl_2, tl_3, tl_4, tl_5, tl_6, tl_7, tl_8, tl_9, tl_10, tl_60, tl_m1] at * <;> omega))
theorem lfctX11_fault_1 (p0 : Int32) (c_1 : ¬ p0 = 0) (c_2 : p0 = 1) : (-1) = (faultAns p0) := (by
  simp only [faultAns]
  repeat' split
  all_goals first | rfl | assumption | (exfalso; simp only [fa_lt, fa_le, fa_eq, fa_lt64, fa_le64, fa_eq64, Int32.toInt_toInt64, tz_0, tz_1, tz_2, tz_3, tz_4, tz_5, tz_6, tz_7, tz_8, tz_9, tz_10, tz_60, tz_m1, tl_0, tl_1, tl_2, tl_3, tl_4, tl_5, tl_6, tl_7, tl_8, tl_9, tl_10, tl_60, tl_m1] at * <;> omega))
theorem lfctX11_fault_2 (p0 : Int32) (c_1 : p0 = 0) : 0 = (faultAns p0) := (by
  simp only [faultAns]
  repeat' split
  all_goals first | rfl | assumption | (exfalso; simp only [fa_lt, fa_le, fa_eq, fa_lt64, fa_le64, fa_eq64, Int32.toInt_toInt64, tz_0, tz_1, tz_2, tz_3, tz_4, tz_5, tz_6, tz_7, tz_8, tz_9, tz_10, tz_60, tz_m1, tl_0, tl_1, tl_2, tl_3, tl_4, tl_5, tl_6, tl_7, tl_8, tl_9, tl_10, tl_60, tl_m1] at * <;> omega))
set_option maxHeartbeats 4000000 in
set_option maxRecDepth 100000 in
theorem ctX11_fault (l : Launch) (D : va_G) (k : Nat → ClassId) (n : Nat → Nat) (p0 : Int32)  : RO l yX11_fault cX11_fault 2 (some .int) 0 D k [.ref (n 0), .int p0] [((n 0), .inr (11, [.int 0, .ref (n 1), .ref (n 2), .ref (n 3), .ref (n 4), .int 0, .ref (n 5), .int 0, .int 0, .int 0, .int 0, .int 0, .int 0, .int (-1), .ref (n 6), .ref (n 7), .ref (n 8), .ref (n 9), .ref (n 10), .ref (n 11), .ref (n 12), .int 0, .int 0, .int 0, .int 0, .ref (n 13), .ref (n 14), .ref (n 15), .int 0, .int 0, .int 0, .ref (n 16), .ref (n 17), .int 0, .ref (n 18), .long 0, .long 0, .ref (n 19), .int 0, .long 0, .long 0, .long 0, .ref (n 20), .ref (n 21), .ref (n 22), .ref (n 23)])), ((n 1), .inl (k 0, 99, .inl (fun _ => 0)))] (Qi (fun r : Int32 => r = (faultAns p0))) := by
  refine RO.of (by decide) (Nat.le_of_ble_eq_true rfl) ?_
  intro p e s m below meth c ls A args Q S hr hlk hQ hK hP hDW hA hS hl
  have hx := S.1
  have hb := S.2.1
  have hl : lv_has ls 2 [(0, .ref (n 0)), (1, .int p0)] := hl
  refine lv_iload_n hx hb dX11_fault_0 rfl (lv_at hl 1 rfl) ?_
  refine lv_if_ne (tgt := 11) hx hb dX11_fault_1 (by decide) (fun c_1 => ?_) (fun c_1 => ?_)
  · skip
    refine lv_iload_n hx hb dX11_fault_11 rfl (lv_at hl 1 rfl) ?_
    refine lv_iconst (v := 1) hx hb dX11_fault_12 (by decide) ?_
    refine lv_icmp_ne (tgt := 23) hx hb dX11_fault_13 (by decide) (fun c_2 => ?_) (fun c_2 => ?_)
    · skip
      refine lv_iconst (v := (-1)) hx hb dX11_fault_23 (by decide) ?_
      exact x_reti S hr hlk hQ hS () (lfctX11_fault_0 p0 c_1 c_2) x_T dX11_fault_24
    · skip
      refine lv_aload_n hx hb dX11_fault_16 rfl (lv_at hl 0 rfl) ?_
      refine x_get S hK hP 0 rfl cfX11 13 lkX11_27 (by decide) rfl dX11_fault_17 ?_
      refine lv_goto (tgt := 24) hx hb dX11_fault_20 (by decide) ?_
      exact x_reti S hr hlk hQ hS () (lfctX11_fault_1 p0 c_1 c_2) x_T dX11_fault_24
  · skip
    refine lv_aload_n hx hb dX11_fault_4 rfl (lv_at hl 0 rfl) ?_
    refine x_get S hK hP 0 rfl cfX11 12 lkX11_143 (by decide) rfl dX11_fault_5 ?_
    refine lv_goto (tgt := 24) hx hb dX11_fault_8 (by decide) ?_
    exact x_reti S hr hlk hQ hS () (lfctX11_fault_2 p0 c_1) x_T dX11_fault_24

theorem lfctX11_end_0 (p0 : Int32) (c_2 : 0 ≤ p0.toInt64 ∧ p0.toInt64 ≤ 0) : p0 = (endAns p0) := (by
  simp only [endAns]
  repeat' split
  all_goals first | rfl | assumption | (exfalso; simp only [fa_lt, fa_le, fa_eq, fa_lt64, fa_le64, fa_eq64, Int32.toInt_toInt64, tz_0, tz_1, tz_2, tz_3, tz_4, tz_5, tz_6, tz_7, tz_8, tz_9, tz_10, tz_60, tz_m1, tl_0, tl_1, tl_2, tl_3, tl_4, tl_5, tl_6, tl_7, tl_8, tl_9, tl_10, tl_60, tl_m1] at * <;> omega))
theorem lfctX11_end_1 (p0 : Int32) (c_2 : ¬ (0 ≤ p0.toInt64 ∧ p0.toInt64 ≤ 0)) : (-1) = (endAns p0) := (by
  simp only [endAns]
  repeat' split
  all_goals first | rfl | assumption | (exfalso; simp only [fa_lt, fa_le, fa_eq, fa_lt64, fa_le64, fa_eq64, Int32.toInt_toInt64, tz_0, tz_1, tz_2, tz_3, tz_4, tz_5, tz_6, tz_7, tz_8, tz_9, tz_10, tz_60, tz_m1, tl_0, tl_1, tl_2, tl_3, tl_4, tl_5, tl_6, tl_7, tl_8, tl_9, tl_10, tl_60, tl_m1] at * <;> omega))
set_option maxHeartbeats 4000000 in
set_option maxRecDepth 100000 in
theorem ctX11_end (l : Launch) (D : va_G) (k : Nat → ClassId) (n : Nat → Nat) (p0 : Int32)  : MU l yX11_end cX11_end 2 (some .int) 1 D k [.ref (n 0), .int p0] [((n 0), .inr (11, [.int 0, .ref (n 1), .ref (n 2), .ref (n 3), .ref (n 4), .int 0, .ref (n 5), .int 0, .int 0, .int 0, .int 0, .int 0, .int 0, .int (-1), .ref (n 6), .ref (n 7), .ref (n 8), .ref (n 9), .ref (n 10), .ref (n 11), .ref (n 12), .int 0, .int 0, .int 0, .int 0, .ref (n 13), .ref (n 14), .ref (n 15), .int 0, .int 0, .int 0, .ref (n 16), .ref (n 17), .int 0, .ref (n 18), .long 0, .long 0, .ref (n 19), .int 0, .long 0, .long 0, .long 0, .ref (n 20), .ref (n 21), .ref (n 22), .ref (n 23)])), ((n 1), .inl (k 0, 99, .inl (fun _ => 0)))] 0 0 (Ui D (fun (r : Int32) (u : Unit) => r = (endAns p0)) (fun _ : Unit => [])) := by
  refine MU.of (by decide) (Nat.le_of_ble_eq_true rfl) ?_
  intro p e s m below meth c ls A args Q S hr hlk hnm hQ hK hP hD hA hS hl
  have hx := S.1
  have hb := S.2.1
  have hl : lv_has ls 2 [(0, .ref (n 0)), (1, .int p0)] := hl
  refine lv_iload_n hx hb dX11_end_0 rfl (lv_at hl 1 rfl) ?_
  refine lv_i2l (v := p0.toInt64) hx hb dX11_end_1 rfl ?_
  refine lv_lconst (v := 0) hx hb dX11_end_2 (by decide) ?_
  refine lv_aload_n hx hb dX11_end_3 rfl (lv_at hl 0 rfl) ?_
  refine x_get S hK hP 0 rfl cfX11 5 lkX11_106 (by decide) rfl dX11_end_4 ?_
  refine lv_i2l (v := 0) hx hb dX11_end_7 (by decide) ?_
  refine x_roSi (As := [.long (p0.toInt64), .long 0, .long 0]) S hK hP hS hA hl mwX11_in lkX11_91 (ctX11_in l D k (p0.toInt64) 0 0 ) [] rfl D_nil rfl rfl ⟨Nat.le_of_ble_eq_true rfl, Nat.le_of_ble_eq_true rfl, Nat.le_of_ble_eq_true rfl⟩ dX11_end_8 ⟨Nat.le_of_ble_eq_true rfl, Nat.le_of_ble_eq_true rfl⟩ (fun r_1 H locs hr_1 hP hS => ?_)
  subst hr_1
  refine lv_if_ne (tgt := 16) hx hb dX11_end_11 (by decide) (fun c_2 => ?_) (fun c_2 => ?_)
  · skip
    have c_2 : 0 ≤ p0.toInt64 ∧ p0.toInt64 ≤ 0 := bo_1.mp c_2
    refine lv_aload_n hx hb dX11_end_16 rfl (lv_at hl 0 rfl) ?_
    refine lv_iload_n hx hb dX11_end_17 rfl (lv_at hl 1 rfl) ?_
    refine x_put (ws' := [((n 0), .inr (11, [.int 0, .ref (n 1), .ref (n 2), .ref (n 3), .ref (n 4), .int p0, .ref (n 5), .int 0, .int 0, .int 0, .int 0, .int 0, .int 0, .int (-1), .ref (n 6), .ref (n 7), .ref (n 8), .ref (n 9), .ref (n 10), .ref (n 11), .ref (n 12), .int 0, .int 0, .int 0, .int 0, .ref (n 13), .ref (n 14), .ref (n 15), .int 0, .int 0, .int 0, .ref (n 16), .ref (n 17), .int 0, .ref (n 18), .long 0, .long 0, .ref (n 19), .int 0, .long 0, .long 0, .long 0, .ref (n 20), .ref (n 21), .ref (n 22), .ref (n 23)])), ((n 1), .inl (k 0, 99, .inl (fun _ => 0)))]) S hK hP hD hS 0 rfl cfX11 5 lkX11_106 (by decide) rfl rfl rfl (Nat.le_of_ble_eq_true rfl) rfl dX11_end_18 (fun H locs hP hD hS => ?_)
    refine lv_iload_n hx hb dX11_end_21 rfl (lv_at hl 1 rfl) ?_
    exact x_reti S hr hlk hQ hS () (lfctX11_end_0 p0 c_2) (x_B P_nil D_nil) dX11_end_22
  · skip
    have c_2 : ¬ (0 ≤ p0.toInt64 ∧ p0.toInt64 ≤ 0) := bo_0.mp c_2
    refine lv_iconst (v := (-1)) hx hb dX11_end_14 (by decide) ?_
    exact x_reti S hr hlk hQ hS () (lfctX11_end_1 p0 c_2) (x_B P_nil D_nil) dX11_end_15

set_option maxHeartbeats 4000000 in
set_option maxRecDepth 100000 in
theorem ctX11_feed (l : Launch) (D : va_G) (k : Nat → ClassId) (n : Nat → Nat) (p0 : Int32) (p1 : Int32) (p2 : Int32) (p3 : Int32) (p4 : Int32)  : MU l yX11_feed cX11_feed 7 (some .int) 0 D k [.ref (n 0), .int p0, .int p1, .int p2, .int p3, .int p4] [((n 0), .inr (11, [.int 0, .ref (n 1), .ref (n 2), .ref (n 3), .ref (n 4), .int 0, .ref (n 5), .int 0, .int 0, .int 0, .int 0, .int 0, .int 0, .int (-1), .ref (n 6), .ref (n 7), .ref (n 8), .ref (n 9), .ref (n 10), .ref (n 11), .ref (n 12), .int 0, .int 0, .int 0, .int 0, .ref (n 13), .ref (n 14), .ref (n 15), .int 0, .int 0, .int 0, .ref (n 16), .ref (n 17), .int 0, .ref (n 18), .long 0, .long 0, .ref (n 19), .int 0, .long 0, .long 0, .long 0, .ref (n 20), .ref (n 21), .ref (n 22), .ref (n 23)])), ((n 4), .inl (k 1, 600, .inl (fun _ => 0))), ((n 5), .inl (k 0, 5, .inl (fun _ => 0)))] 0 0 (Ui D (fun (r : Int32) (u : Unit) => r = 20) (fun _ : Unit => [])) := by
  refine MU.of (by decide) (Nat.le_of_ble_eq_true rfl) ?_
  intro p e s m below meth c ls A args Q S hr hlk hnm hQ hK hP hD hA hS hl
  have hx := S.1
  have hb := S.2.1
  have hl : lv_has ls 7 [(0, .ref (n 0)), (1, .int p0), (2, .int p1), (3, .int p2), (4, .int p3), (5, .int p4)] := hl
  refine lv_aload_n hx hb dX11_feed_0 rfl (lv_at hl 0 rfl) ?_
  refine x_get S hK hP 0 rfl cfX11 5 lkX11_106 (by decide) rfl dX11_feed_1 ?_
  refine lv_bipush (v := 20) hx hb dX11_feed_4 (by decide) ?_
  refine lv_iadd hx hb dX11_feed_6 ?_
  refine x_is 20 (by decide) ?_
  refine lv_sipush (v := 600) hx hb dX11_feed_7 (by decide) ?_
  refine lv_icmp_le (tgt := 15) hx hb dX11_feed_10 (by decide) (fun c_1 => ?_) (fun c_1 => absurd (by decide) c_1)
  refine lv_aload_n hx hb dX11_feed_15 rfl (lv_at hl 0 rfl) ?_
  refine x_get S hK hP 0 rfl cfX11 6 lkX11_24 (by decide) rfl dX11_feed_16 ?_
  refine lv_iconst (v := 0) hx hb dX11_feed_19 (by decide) ?_
  refine lv_iload_n hx hb dX11_feed_20 rfl (lv_at hl 1 rfl) ?_
  refine x_iast (ws' := fun f_2 => [((n 0), .inr (11, [.int 0, .ref (n 1), .ref (n 2), .ref (n 3), .ref (n 4), .int 0, .ref (n 5), .int 0, .int 0, .int 0, .int 0, .int 0, .int 0, .int (-1), .ref (n 6), .ref (n 7), .ref (n 8), .ref (n 9), .ref (n 10), .ref (n 11), .ref (n 12), .int 0, .int 0, .int 0, .int 0, .ref (n 13), .ref (n 14), .ref (n 15), .int 0, .int 0, .int 0, .ref (n 16), .ref (n 17), .int 0, .ref (n 18), .long 0, .long 0, .ref (n 19), .int 0, .long 0, .long 0, .long 0, .ref (n 20), .ref (n 21), .ref (n 22), .ref (n 23)])), ((n 4), .inl (k 1, 600, .inl (fun _ => 0))), ((n 5), .inl (k 0, 5, .inl f_2))]) S hK hP hD hS 2 rfl (vp_lit (by decide)) (fun _ => rfl) dX11_feed_21 (fun f_2 H locs ef_2 hP hD hS => ?_)
  refine lv_aload_n hx hb dX11_feed_22 rfl (lv_at hl 0 rfl) ?_
  refine x_get S hK hP 0 rfl cfX11 6 lkX11_24 (by decide) rfl dX11_feed_23 ?_
  refine lv_iconst (v := 1) hx hb dX11_feed_26 (by decide) ?_
  refine lv_iload_n hx hb dX11_feed_27 rfl (lv_at hl 2 rfl) ?_
  refine x_iast (ws' := fun f_3 => [((n 0), .inr (11, [.int 0, .ref (n 1), .ref (n 2), .ref (n 3), .ref (n 4), .int 0, .ref (n 5), .int 0, .int 0, .int 0, .int 0, .int 0, .int 0, .int (-1), .ref (n 6), .ref (n 7), .ref (n 8), .ref (n 9), .ref (n 10), .ref (n 11), .ref (n 12), .int 0, .int 0, .int 0, .int 0, .ref (n 13), .ref (n 14), .ref (n 15), .int 0, .int 0, .int 0, .ref (n 16), .ref (n 17), .int 0, .ref (n 18), .long 0, .long 0, .ref (n 19), .int 0, .long 0, .long 0, .long 0, .ref (n 20), .ref (n 21), .ref (n 22), .ref (n 23)])), ((n 4), .inl (k 1, 600, .inl (fun _ => 0))), ((n 5), .inl (k 0, 5, .inl f_3))]) S hK hP hD hS 2 rfl (vp_lit (by decide)) (fun _ => rfl) dX11_feed_28 (fun f_3 H locs ef_3 hP hD hS => ?_)
  refine lv_aload_n hx hb dX11_feed_29 rfl (lv_at hl 0 rfl) ?_
  refine x_get S hK hP 0 rfl cfX11 6 lkX11_24 (by decide) rfl dX11_feed_30 ?_
  refine lv_iconst (v := 2) hx hb dX11_feed_33 (by decide) ?_
  refine lv_iload_n hx hb dX11_feed_34 rfl (lv_at hl 3 rfl) ?_
  refine x_iast (ws' := fun f_4 => [((n 0), .inr (11, [.int 0, .ref (n 1), .ref (n 2), .ref (n 3), .ref (n 4), .int 0, .ref (n 5), .int 0, .int 0, .int 0, .int 0, .int 0, .int 0, .int (-1), .ref (n 6), .ref (n 7), .ref (n 8), .ref (n 9), .ref (n 10), .ref (n 11), .ref (n 12), .int 0, .int 0, .int 0, .int 0, .ref (n 13), .ref (n 14), .ref (n 15), .int 0, .int 0, .int 0, .ref (n 16), .ref (n 17), .int 0, .ref (n 18), .long 0, .long 0, .ref (n 19), .int 0, .long 0, .long 0, .long 0, .ref (n 20), .ref (n 21), .ref (n 22), .ref (n 23)])), ((n 4), .inl (k 1, 600, .inl (fun _ => 0))), ((n 5), .inl (k 0, 5, .inl f_4))]) S hK hP hD hS 2 rfl (vp_lit (by decide)) (fun _ => rfl) dX11_feed_35 (fun f_4 H locs ef_4 hP hD hS => ?_)
  refine lv_aload_n hx hb dX11_feed_36 rfl (lv_at hl 0 rfl) ?_
  refine x_get S hK hP 0 rfl cfX11 6 lkX11_24 (by decide) rfl dX11_feed_37 ?_
  refine lv_iconst (v := 3) hx hb dX11_feed_40 (by decide) ?_
  refine lv_iload hx hb dX11_feed_41 (lv_at hl 4 rfl) ?_
  refine x_iast (ws' := fun f_5 => [((n 0), .inr (11, [.int 0, .ref (n 1), .ref (n 2), .ref (n 3), .ref (n 4), .int 0, .ref (n 5), .int 0, .int 0, .int 0, .int 0, .int 0, .int 0, .int (-1), .ref (n 6), .ref (n 7), .ref (n 8), .ref (n 9), .ref (n 10), .ref (n 11), .ref (n 12), .int 0, .int 0, .int 0, .int 0, .ref (n 13), .ref (n 14), .ref (n 15), .int 0, .int 0, .int 0, .ref (n 16), .ref (n 17), .int 0, .ref (n 18), .long 0, .long 0, .ref (n 19), .int 0, .long 0, .long 0, .long 0, .ref (n 20), .ref (n 21), .ref (n 22), .ref (n 23)])), ((n 4), .inl (k 1, 600, .inl (fun _ => 0))), ((n 5), .inl (k 0, 5, .inl f_5))]) S hK hP hD hS 2 rfl (vp_lit (by decide)) (fun _ => rfl) dX11_feed_43 (fun f_5 H locs ef_5 hP hD hS => ?_)
  refine lv_aload_n hx hb dX11_feed_44 rfl (lv_at hl 0 rfl) ?_
  refine x_get S hK hP 0 rfl cfX11 6 lkX11_24 (by decide) rfl dX11_feed_45 ?_
  refine lv_iconst (v := 4) hx hb dX11_feed_48 (by decide) ?_
  refine lv_iload hx hb dX11_feed_49 (lv_at hl 5 rfl) ?_
  refine x_iast (ws' := fun f_6 => [((n 0), .inr (11, [.int 0, .ref (n 1), .ref (n 2), .ref (n 3), .ref (n 4), .int 0, .ref (n 5), .int 0, .int 0, .int 0, .int 0, .int 0, .int 0, .int (-1), .ref (n 6), .ref (n 7), .ref (n 8), .ref (n 9), .ref (n 10), .ref (n 11), .ref (n 12), .int 0, .int 0, .int 0, .int 0, .ref (n 13), .ref (n 14), .ref (n 15), .int 0, .int 0, .int 0, .ref (n 16), .ref (n 17), .int 0, .ref (n 18), .long 0, .long 0, .ref (n 19), .int 0, .long 0, .long 0, .long 0, .ref (n 20), .ref (n 21), .ref (n 22), .ref (n 23)])), ((n 4), .inl (k 1, 600, .inl (fun _ => 0))), ((n 5), .inl (k 0, 5, .inl f_6))]) S hK hP hD hS 2 rfl (vp_lit (by decide)) (fun _ => rfl) dX11_feed_51 (fun f_6 H locs ef_6 hP hD hS => ?_)
  refine lv_iconst (v := 0) hx hb dX11_feed_52 (by decide) ?_
  refine lv_istore (lv' := [(6, .int 0), (0, .ref (n 0)), (1, .int p0), (2, .int p1), (3, .int p2), (4, .int p3), (5, .int p4)]) hx hb dX11_feed_53 hl (by decide) rfl (fun ls hl => ?_)
  have lp_9 : ∀ (nn j_7 : Nat) (g_8 : Nat → Int32) (H : Heap) (locs : List Loc) (ls : Array Slot), j_7 ≤ 20 → 20 - j_7 < nn → va_P D vwCl [((n 0), .inr (11, [.int 0, .ref (n 1), .ref (n 2), .ref (n 3), .ref (n 4), .int 0, .ref (n 5), .int 0, .int 0, .int 0, .int 0, .int 0, .int 0, .int (-1), .ref (n 6), .ref (n 7), .ref (n 8), .ref (n 9), .ref (n 10), .ref (n 11), .ref (n 12), .int 0, .int 0, .int 0, .int 0, .ref (n 13), .ref (n 14), .ref (n 15), .int 0, .int 0, .int 0, .ref (n 16), .ref (n 17), .int 0, .ref (n 18), .long 0, .long 0, .ref (n 19), .int 0, .long 0, .long 0, .long 0, .ref (n 20), .ref (n 21), .ref (n 22), .ref (n 23)])), ((n 4), .inl (k 1, 600, .inl g_8)), ((n 5), .inl (k 0, 5, .inl f_6))] H → va_D A [((n 0), .inr (11, [.int 0, .ref (n 1), .ref (n 2), .ref (n 3), .ref (n 4), .int 0, .ref (n 5), .int 0, .int 0, .int 0, .int 0, .int 0, .int 0, .int (-1), .ref (n 6), .ref (n 7), .ref (n 8), .ref (n 9), .ref (n 10), .ref (n 11), .ref (n 12), .int 0, .int 0, .int 0, .int 0, .ref (n 13), .ref (n 14), .ref (n 15), .int 0, .int 0, .int 0, .ref (n 16), .ref (n 17), .int 0, .ref (n 18), .long 0, .long 0, .ref (n 19), .int 0, .long 0, .long 0, .long 0, .ref (n 20), .ref (n 21), .ref (n 22), .ref (n 23)])), ((n 4), .inl (k 1, 600, .inl g_8)), ((n 5), .inl (k 0, 5, .inl f_6))] → va_S A s.heap H locs → lv_has ls 7 [(6, .int (nI j_7)), (0, .ref (n 0)), (1, .int p0), (2, .int p1), (3, .int p2), (4, .int p3), (5, .int p4)] → W p l e (Rm 0 0 0) s m args below meth c H locs 0 0 Q (F0 m 55 ls []) := by
    intro nn
    induction nn with
    | zero => intro j_7 g_8 H locs ls hjj_7 hnj_7; exact absurd hnj_7 (by omega)
    | succ nn ihj_7 =>
      intro j_7 g_8 H locs ls hjj_7 hnj_7 hP hD hS hl
      refine lv_iload hx hb dX11_feed_55 (lv_at hl 0 rfl) ?_
      refine lv_bipush (v := 20) hx hb dX11_feed_57 (by decide) ?_
      refine lv_icmp_ge (tgt := 101) hx hb dX11_feed_59 (by decide) (fun c_10 => ?_) (fun c_10 => ?_)
      · skip
        have c_10 : 20 ≤ j_7 := (ni_le (by decide) rfl (by omega) (by omega)).mp c_10
        refine lv_aload_n hx hb dX11_feed_101 rfl (lv_at hl 1 rfl) ?_
        refine lv_dup hx hb dX11_feed_102 rfl ?_
        refine x_get S hK hP 0 rfl cfX11 5 lkX11_106 (by decide) rfl dX11_feed_103 ?_
        refine lv_bipush (v := 20) hx hb dX11_feed_106 (by decide) ?_
        refine lv_iadd hx hb dX11_feed_108 ?_
        refine x_is 20 (by decide) ?_
        refine x_put (ws' := [((n 0), .inr (11, [.int 0, .ref (n 1), .ref (n 2), .ref (n 3), .ref (n 4), .int 20, .ref (n 5), .int 0, .int 0, .int 0, .int 0, .int 0, .int 0, .int (-1), .ref (n 6), .ref (n 7), .ref (n 8), .ref (n 9), .ref (n 10), .ref (n 11), .ref (n 12), .int 0, .int 0, .int 0, .int 0, .ref (n 13), .ref (n 14), .ref (n 15), .int 0, .int 0, .int 0, .ref (n 16), .ref (n 17), .int 0, .ref (n 18), .long 0, .long 0, .ref (n 19), .int 0, .long 0, .long 0, .long 0, .ref (n 20), .ref (n 21), .ref (n 22), .ref (n 23)])), ((n 4), .inl (k 1, 600, .inl g_8)), ((n 5), .inl (k 0, 5, .inl f_6))]) S hK hP hD hS 0 rfl cfX11 5 lkX11_106 (by decide) rfl rfl rfl (Nat.le_of_ble_eq_true rfl) rfl dX11_feed_109 (fun H locs hP hD hS => ?_)
        refine lv_aload_n hx hb dX11_feed_112 rfl (lv_at hl 1 rfl) ?_
        refine x_get S hK hP 0 rfl cfX11 5 lkX11_106 (by decide) rfl dX11_feed_113 ?_
        exact x_reti S hr hlk hQ hS () rfl (x_B P_nil D_nil) dX11_feed_116
      · skip
        have c_10 : ¬ 20 ≤ j_7 := fun q => c_10 ((ni_le (by decide) rfl (by omega) (by omega)).mpr q)
        refine lv_aload_n hx hb dX11_feed_62 rfl (lv_at hl 1 rfl) ?_
        refine x_get S hK hP 0 rfl cfX11 4 lkX11_20 (by decide) rfl dX11_feed_63 ?_
        refine lv_aload_n hx hb dX11_feed_66 rfl (lv_at hl 1 rfl) ?_
        refine x_get S hK hP 0 rfl cfX11 5 lkX11_106 (by decide) rfl dX11_feed_67 ?_
        refine lv_iload hx hb dX11_feed_70 (lv_at hl 0 rfl) ?_
        refine lv_iadd hx hb dX11_feed_72 ?_
        refine x_is (nI (0 + j_7)) (ni_add (by decide) rfl) ?_
        refine lv_aload_n hx hb dX11_feed_73 rfl (lv_at hl 1 rfl) ?_
        refine x_get S hK hP 0 rfl cfX11 6 lkX11_24 (by decide) rfl dX11_feed_74 ?_
        refine lv_iload hx hb dX11_feed_77 (lv_at hl 0 rfl) ?_
        refine lv_iconst (v := 4) hx hb dX11_feed_79 (by decide) ?_
        refine lv_idiv hx hb dX11_feed_80 (by decide) ?_
        refine x_is (nI (j_7 / 4)) (ni_div rfl (by decide) (by omega) (by decide) (by decide)) ?_
        refine x_iald S hK hP 2 rfl (vp_in_nI (by omega) (by decide)) dX11_feed_81 ?_
        refine lv_topi (fun v_11 ev_11 => ?_)
        refine lv_bipush (v := 24) hx hb dX11_feed_82 (by decide) ?_
        refine lv_bipush (v := 8) hx hb dX11_feed_84 (by decide) ?_
        refine lv_iload hx hb dX11_feed_86 (lv_at hl 0 rfl) ?_
        refine lv_iconst (v := 4) hx hb dX11_feed_88 (by decide) ?_
        refine lv_irem hx hb dX11_feed_89 (by decide) ?_
        refine x_is (nI (j_7 % 4)) (ni_rem rfl (by decide) (by omega) (by decide) (by decide)) ?_
        refine lv_imul hx hb dX11_feed_90 ?_
        refine x_is (nI (8 * (j_7 % 4))) (ni_mul (by decide) rfl) ?_
        refine lv_isub hx hb dX11_feed_91 ?_
        refine lv_topi (fun v_12 ev_12 => ?_)
        refine lv_ishr hx hb dX11_feed_92 ?_
        refine lv_topi (fun v_13 ev_13 => ?_)
        refine lv_i2b hx hb dX11_feed_93 rfl ?_
        refine lv_topi (fun v_14 ev_14 => ?_)
        refine x_bast (ws' := fun f_15 => [((n 0), .inr (11, [.int 0, .ref (n 1), .ref (n 2), .ref (n 3), .ref (n 4), .int 0, .ref (n 5), .int 0, .int 0, .int 0, .int 0, .int 0, .int 0, .int (-1), .ref (n 6), .ref (n 7), .ref (n 8), .ref (n 9), .ref (n 10), .ref (n 11), .ref (n 12), .int 0, .int 0, .int 0, .int 0, .ref (n 13), .ref (n 14), .ref (n 15), .int 0, .int 0, .int 0, .ref (n 16), .ref (n 17), .int 0, .ref (n 18), .long 0, .long 0, .ref (n 19), .int 0, .long 0, .long 0, .long 0, .ref (n 20), .ref (n 21), .ref (n 22), .ref (n 23)])), ((n 4), .inl (k 1, 600, .inl f_15)), ((n 5), .inl (k 0, 5, .inl f_6))]) S hK hP hD hS 1 rfl (vp_in_nI (by omega) (by decide)) (fun _ => rfl) dX11_feed_94 (fun f_15 H locs ef_15 hP hD hS => ?_)
        refine lv_iinc (v := (nI (j_7 + 1))) (lv' := [(6, .int (nI (j_7 + 1))), (0, .ref (n 0)), (1, .int p0), (2, .int p1), (3, .int p2), (4, .int p3), (5, .int p4)]) hx hb dX11_feed_95 hl (k := 0) rfl (ni_inc _) (by decide) rfl (fun ls hl => ?_)
        refine lv_goto (tgt := 55) hx hb dX11_feed_98 (by decide) ?_
        exact ihj_7 (j_7 + 1) f_15 _ _ _ (by omega) (by omega) hP hD hS (lv_sub hl [0, 1, 2, 3, 4, 5, 6] rfl)
  exact lp_9 (20 + 1) 0 (fun _ => 0) _ _ _ (by omega) (by omega) hP hD hS (lv_sub hl [0, 1, 2, 3, 4, 5, 6] rfl)

theorem lfctX11_count_0 (p0 : Int32) (c_2 : ¬ (0 ≤ p0.toInt64 ∧ p0.toInt64 ≤ 8)) (c_3 : ¬ p0 = 9) (c_4 : p0 = 10) : 0 = (countAns p0) := (by
  simp only [countAns]
  repeat' split
  all_goals first | rfl | assumption | (exfalso; simp only [fa_lt, fa_le, fa_eq, fa_lt64, fa_le64, fa_eq64, Int32.toInt_toInt64, tz_0, tz_1, tz_2, tz_3, tz_4, tz_5, tz_6, tz_7, tz_8, tz_9, tz_10, tz_60, tz_m1, tl_0, tl_1, tl_2, tl_3, tl_4, tl_5, tl_6, tl_7, tl_8, tl_9, tl_10, tl_60, tl_m1] at * <;> omega))
theorem lfctX11_count_1 (p0 : Int32) (c_2 : ¬ (0 ≤ p0.toInt64 ∧ p0.toInt64 ≤ 8)) (c_3 : ¬ p0 = 9) (c_4 : ¬ p0 = 10) : (-1) = (countAns p0) := (by
  simp only [countAns]
  repeat' split
  all_goals first | rfl | assumption | (exfalso; simp only [fa_lt, fa_le, fa_eq, fa_lt64, fa_le64, fa_eq64, Int32.toInt_toInt64, tz_0, tz_1, tz_2, tz_3, tz_4, tz_5, tz_6, tz_7, tz_8, tz_9, tz_10, tz_60, tz_m1, tl_0, tl_1, tl_2, tl_3, tl_4, tl_5, tl_6, tl_7, tl_8, tl_9, tl_10, tl_60, tl_m1] at * <;> omega))
theorem lfctX11_count_2 (p0 : Int32) (c_2 : ¬ (0 ≤ p0.toInt64 ∧ p0.toInt64 ≤ 8)) (c_3 : p0 = 9) : 0 = (countAns p0) := (by
  simp only [countAns]
  repeat' split
  all_goals first | rfl | assumption | (exfalso; simp only [fa_lt, fa_le, fa_eq, fa_lt64, fa_le64, fa_eq64, Int32.toInt_toInt64, tz_0, tz_1, tz_2, tz_3, tz_4, tz_5, tz_6, tz_7, tz_8, tz_9, tz_10, tz_60, tz_m1, tl_0, tl_1, tl_2, tl_3, tl_4, tl_5, tl_6, tl_7, tl_8, tl_9, tl_10, tl_60, tl_m1] at * <;> omega))
theorem lfctX11_count_3 (p0 : Int32) (c_2 : 0 ≤ p0.toInt64 ∧ p0.toInt64 ≤ 8) : 0 = (countAns p0) := (by
  simp only [countAns]
  repeat' split
  all_goals first | rfl | assumption | (exfalso; simp only [fa_lt, fa_le, fa_eq, fa_lt64, fa_le64, fa_eq64, Int32.toInt_toInt64, tz_0, tz_1, tz_2, tz_3, tz_4, tz_5, tz_6, tz_7, tz_8, tz_9, tz_10, tz_60, tz_m1, tl_0, tl_1, tl_2, tl_3, tl_4, tl_5, tl_6, tl_7, tl_8, tl_9, tl_10, tl_60, tl_m1] at * <;> omega))
set_option maxHeartbeats 4000000 in
set_option maxRecDepth 100000 in
theorem ctX11_count (l : Launch) (D : va_G) (k : Nat → ClassId) (n : Nat → Nat) (p0 : Int32)  : RO l yX11_count cX11_count 4 (some .int) 1 D k [.ref (n 0), .int p0] [((n 0), .inr (11, [.int 0, .ref (n 1), .ref (n 2), .ref (n 3), .ref (n 4), .int 0, .ref (n 5), .int 0, .int 0, .int 0, .int 0, .int 0, .int 0, .int (-1), .ref (n 6), .ref (n 7), .ref (n 8), .ref (n 9), .ref (n 10), .ref (n 11), .ref (n 12), .int 0, .int 0, .int 0, .int 0, .ref (n 13), .ref (n 14), .ref (n 15), .int 0, .int 0, .int 0, .ref (n 16), .ref (n 17), .int 0, .ref (n 18), .long 0, .long 0, .ref (n 19), .int 0, .long 0, .long 0, .long 0, .ref (n 20), .ref (n 21), .ref (n 22), .ref (n 23)])), ((n 1), .inl (k 0, 99, .inl (fun _ => 0))), ((n 20), .inl (k 0, 4, .inl m1))] (Qi (fun r : Int32 => r = (countAns p0))) := by
  refine RO.of (by decide) (Nat.le_of_ble_eq_true rfl) ?_
  intro p e s m below meth c ls A args Q S hr hlk hQ hK hP hDW hA hS hl
  have hx := S.1
  have hb := S.2.1
  have hl : lv_has ls 4 [(0, .ref (n 0)), (1, .int p0)] := hl
  refine lv_iload_n hx hb dX11_count_0 rfl (lv_at hl 1 rfl) ?_
  refine lv_i2l (v := p0.toInt64) hx hb dX11_count_1 rfl ?_
  refine lv_lconst (v := 0) hx hb dX11_count_2 (by decide) ?_
  refine lv_ldc2 hx hb S.2.2.2.1 (S.2.2.2.2 _ lkX11_509) dX11_count_3 ?_
  refine x_roSi (As := [.long (p0.toInt64), .long 0, .long 8]) S hK hP hS hA hl mwX11_in lkX11_91 (ctX11_in l D k (p0.toInt64) 0 8 ) [] rfl D_nil rfl rfl ⟨Nat.le_of_ble_eq_true rfl, Nat.le_of_ble_eq_true rfl, Nat.le_of_ble_eq_true rfl⟩ dX11_count_6 ⟨Nat.le_of_ble_eq_true rfl, Nat.le_of_ble_eq_true rfl⟩ (fun r_1 H locs hr_1 hP hS => ?_)
  subst hr_1
  refine lv_if_eq (tgt := 19) hx hb dX11_count_9 (by decide) (fun c_2 => ?_) (fun c_2 => ?_)
  · skip
    have c_2 : ¬ (0 ≤ p0.toInt64 ∧ p0.toInt64 ≤ 8) := bo_0.mp c_2
    refine lv_iload_n hx hb dX11_count_19 rfl (lv_at hl 1 rfl) ?_
    refine lv_bipush (v := 9) hx hb dX11_count_20 (by decide) ?_
    refine lv_icmp_ne (tgt := 30) hx hb dX11_count_22 (by decide) (fun c_3 => ?_) (fun c_3 => ?_)
    · skip
      refine lv_iload_n hx hb dX11_count_30 rfl (lv_at hl 1 rfl) ?_
      refine lv_bipush (v := 10) hx hb dX11_count_31 (by decide) ?_
      refine lv_icmp_eq (tgt := 38) hx hb dX11_count_33 (by decide) (fun c_4 => ?_) (fun c_4 => ?_)
      · skip
        refine lv_iconst (v := 0) hx hb dX11_count_38 (by decide) ?_
        refine lv_istore_n (lv' := [(2, .int 0), (0, .ref (n 0)), (1, .int p0)]) hx hb dX11_count_39 rfl hl (by decide) rfl (fun ls hl => ?_)
        refine lv_iconst (v := 0) hx hb dX11_count_40 (by decide) ?_
        refine lv_istore_n (lv' := [(3, .int 0), (2, .int 0), (0, .ref (n 0)), (1, .int p0)]) hx hb dX11_count_41 rfl hl (by decide) rfl (fun ls hl => ?_)
        refine lv_iload_n hx hb dX11_count_42 rfl (lv_at hl 0 rfl) ?_
        refine lv_iconst (v := 4) hx hb dX11_count_43 (by decide) ?_
        refine lv_icmp_ge (tgt := 71) hx hb dX11_count_44 (by decide) (fun c_5 => absurd c_5 (by decide)) (fun c_5 => ?_)
        refine lv_iload_n hx hb dX11_count_47 rfl (lv_at hl 1 rfl) ?_
        refine lv_aload_n hx hb dX11_count_48 rfl (lv_at hl 2 rfl) ?_
        refine x_get S hK hP 0 rfl cfX11 42 lkX11_73 (by decide) rfl dX11_count_49 ?_
        refine lv_iload_n hx hb dX11_count_52 rfl (lv_at hl 0 rfl) ?_
        refine x_iald S hK hP 2 rfl (vp_lit (by decide)) dX11_count_53 ?_
        refine x_is (-1) rfl ?_
        refine lv_iconst (v := (-1)) hx hb dX11_count_54 (by decide) ?_
        refine lv_icmp_ne (tgt := 62) hx hb dX11_count_55 (by decide) (fun c_6 => absurd (by decide) c_6) (fun c_6 => ?_)
        refine lv_iconst (v := 0) hx hb dX11_count_58 (by decide) ?_
        refine lv_goto (tgt := 63) hx hb dX11_count_59 (by decide) ?_
        refine lv_iadd hx hb dX11_count_63 ?_
        refine x_is 0 (by decide) ?_
        refine lv_istore_n (lv' := [(2, .int 0), (3, .int 0), (0, .ref (n 0)), (1, .int p0)]) hx hb dX11_count_64 rfl hl (by decide) rfl (fun ls hl => ?_)
        refine lv_iinc (v := 1) (lv' := [(3, .int 1), (2, .int 0), (0, .ref (n 0)), (1, .int p0)]) hx hb dX11_count_65 hl (k := 1) rfl (by decide) (by decide) rfl (fun ls hl => ?_)
        refine lv_goto (tgt := 42) hx hb dX11_count_68 (by decide) ?_
        refine lv_iload_n hx hb dX11_count_42 rfl (lv_at hl 0 rfl) ?_
        refine lv_iconst (v := 4) hx hb dX11_count_43 (by decide) ?_
        refine lv_icmp_ge (tgt := 71) hx hb dX11_count_44 (by decide) (fun c_7 => absurd c_7 (by decide)) (fun c_7 => ?_)
        refine lv_iload_n hx hb dX11_count_47 rfl (lv_at hl 1 rfl) ?_
        refine lv_aload_n hx hb dX11_count_48 rfl (lv_at hl 2 rfl) ?_
        refine x_get S hK hP 0 rfl cfX11 42 lkX11_73 (by decide) rfl dX11_count_49 ?_
        refine lv_iload_n hx hb dX11_count_52 rfl (lv_at hl 0 rfl) ?_
        refine x_iald S hK hP 2 rfl (vp_lit (by decide)) dX11_count_53 ?_
        refine x_is (-1) rfl ?_
        refine lv_iconst (v := (-1)) hx hb dX11_count_54 (by decide) ?_
        refine lv_icmp_ne (tgt := 62) hx hb dX11_count_55 (by decide) (fun c_8 => absurd (by decide) c_8) (fun c_8 => ?_)
        refine lv_iconst (v := 0) hx hb dX11_count_58 (by decide) ?_
        refine lv_goto (tgt := 63) hx hb dX11_count_59 (by decide) ?_
        refine lv_iadd hx hb dX11_count_63 ?_
        refine x_is 0 (by decide) ?_
        refine lv_istore_n (lv' := [(2, .int 0), (3, .int 1), (0, .ref (n 0)), (1, .int p0)]) hx hb dX11_count_64 rfl hl (by decide) rfl (fun ls hl => ?_)
        refine lv_iinc (v := 2) (lv' := [(3, .int 2), (2, .int 0), (0, .ref (n 0)), (1, .int p0)]) hx hb dX11_count_65 hl (k := 1) rfl (by decide) (by decide) rfl (fun ls hl => ?_)
        refine lv_goto (tgt := 42) hx hb dX11_count_68 (by decide) ?_
        refine lv_iload_n hx hb dX11_count_42 rfl (lv_at hl 0 rfl) ?_
        refine lv_iconst (v := 4) hx hb dX11_count_43 (by decide) ?_
        refine lv_icmp_ge (tgt := 71) hx hb dX11_count_44 (by decide) (fun c_9 => absurd c_9 (by decide)) (fun c_9 => ?_)
        refine lv_iload_n hx hb dX11_count_47 rfl (lv_at hl 1 rfl) ?_
        refine lv_aload_n hx hb dX11_count_48 rfl (lv_at hl 2 rfl) ?_
        refine x_get S hK hP 0 rfl cfX11 42 lkX11_73 (by decide) rfl dX11_count_49 ?_
        refine lv_iload_n hx hb dX11_count_52 rfl (lv_at hl 0 rfl) ?_
        refine x_iald S hK hP 2 rfl (vp_lit (by decide)) dX11_count_53 ?_
        refine x_is (-1) rfl ?_
        refine lv_iconst (v := (-1)) hx hb dX11_count_54 (by decide) ?_
        refine lv_icmp_ne (tgt := 62) hx hb dX11_count_55 (by decide) (fun c_10 => absurd (by decide) c_10) (fun c_10 => ?_)
        refine lv_iconst (v := 0) hx hb dX11_count_58 (by decide) ?_
        refine lv_goto (tgt := 63) hx hb dX11_count_59 (by decide) ?_
        refine lv_iadd hx hb dX11_count_63 ?_
        refine x_is 0 (by decide) ?_
        refine lv_istore_n (lv' := [(2, .int 0), (3, .int 2), (0, .ref (n 0)), (1, .int p0)]) hx hb dX11_count_64 rfl hl (by decide) rfl (fun ls hl => ?_)
        refine lv_iinc (v := 3) (lv' := [(3, .int 3), (2, .int 0), (0, .ref (n 0)), (1, .int p0)]) hx hb dX11_count_65 hl (k := 1) rfl (by decide) (by decide) rfl (fun ls hl => ?_)
        refine lv_goto (tgt := 42) hx hb dX11_count_68 (by decide) ?_
        refine lv_iload_n hx hb dX11_count_42 rfl (lv_at hl 0 rfl) ?_
        refine lv_iconst (v := 4) hx hb dX11_count_43 (by decide) ?_
        refine lv_icmp_ge (tgt := 71) hx hb dX11_count_44 (by decide) (fun c_11 => absurd c_11 (by decide)) (fun c_11 => ?_)
        refine lv_iload_n hx hb dX11_count_47 rfl (lv_at hl 1 rfl) ?_
        refine lv_aload_n hx hb dX11_count_48 rfl (lv_at hl 2 rfl) ?_
        refine x_get S hK hP 0 rfl cfX11 42 lkX11_73 (by decide) rfl dX11_count_49 ?_
        refine lv_iload_n hx hb dX11_count_52 rfl (lv_at hl 0 rfl) ?_
        refine x_iald S hK hP 2 rfl (vp_lit (by decide)) dX11_count_53 ?_
        refine x_is (-1) rfl ?_
        refine lv_iconst (v := (-1)) hx hb dX11_count_54 (by decide) ?_
        refine lv_icmp_ne (tgt := 62) hx hb dX11_count_55 (by decide) (fun c_12 => absurd (by decide) c_12) (fun c_12 => ?_)
        refine lv_iconst (v := 0) hx hb dX11_count_58 (by decide) ?_
        refine lv_goto (tgt := 63) hx hb dX11_count_59 (by decide) ?_
        refine lv_iadd hx hb dX11_count_63 ?_
        refine x_is 0 (by decide) ?_
        refine lv_istore_n (lv' := [(2, .int 0), (3, .int 3), (0, .ref (n 0)), (1, .int p0)]) hx hb dX11_count_64 rfl hl (by decide) rfl (fun ls hl => ?_)
        refine lv_iinc (v := 4) (lv' := [(3, .int 4), (2, .int 0), (0, .ref (n 0)), (1, .int p0)]) hx hb dX11_count_65 hl (k := 1) rfl (by decide) (by decide) rfl (fun ls hl => ?_)
        refine lv_goto (tgt := 42) hx hb dX11_count_68 (by decide) ?_
        refine lv_iload_n hx hb dX11_count_42 rfl (lv_at hl 0 rfl) ?_
        refine lv_iconst (v := 4) hx hb dX11_count_43 (by decide) ?_
        refine lv_icmp_ge (tgt := 71) hx hb dX11_count_44 (by decide) (fun c_13 => ?_) (fun c_13 => absurd (by decide) c_13)
        refine lv_iload_n hx hb dX11_count_71 rfl (lv_at hl 1 rfl) ?_
        exact x_reti S hr hlk hQ hS () (lfctX11_count_0 p0 c_2 c_3 c_4) x_T dX11_count_72
      · skip
        refine lv_iconst (v := (-1)) hx hb dX11_count_36 (by decide) ?_
        exact x_reti S hr hlk hQ hS () (lfctX11_count_1 p0 c_2 c_3 c_4) x_T dX11_count_37
    · skip
      refine lv_aload_n hx hb dX11_count_25 rfl (lv_at hl 0 rfl) ?_
      refine x_get S hK hP 0 rfl cfX11 5 lkX11_106 (by decide) rfl dX11_count_26 ?_
      exact x_reti S hr hlk hQ hS () (lfctX11_count_2 p0 c_2 c_3) x_T dX11_count_29
  · skip
    have c_2 : 0 ≤ p0.toInt64 ∧ p0.toInt64 ≤ 8 := bo_1.mp c_2
    obtain ⟨j, hj, ej⟩ : ∃ j : Nat, j < 9 ∧ p0 = nI j := nat9l c_2
    have hl : lv_has ls 4 [(0, .ref (n 0)), (1, .int (nI j))] := by rw [ej] at hl; exact hl
    refine lv_aload_n hx hb dX11_count_12 rfl (lv_at hl 0 rfl) ?_
    refine x_get S hK hP 0 rfl cfX11 1 lkX11_9 (by decide) rfl dX11_count_13 ?_
    refine lv_iload_n hx hb dX11_count_16 rfl (lv_at hl 1 rfl) ?_
    refine x_iald S hK hP 1 rfl (vp_in_nI (by omega) (by decide)) dX11_count_17 ?_
    refine x_is 0 rfl ?_
    exact x_reti S hr hlk hQ hS () (lfctX11_count_3 p0 c_2) x_T dX11_count_18

theorem lfctX11_write_0 (p0 : Int32) (c_2 : 0 ≤ p0.toInt64 ∧ p0.toInt64 ≤ 3) : (-6) = (writeAns p0) := (by
  simp only [writeAns]
  repeat' split
  all_goals first | rfl | assumption | (exfalso; simp only [fa_lt, fa_le, fa_eq, fa_lt64, fa_le64, fa_eq64, Int32.toInt_toInt64, tz_0, tz_1, tz_2, tz_3, tz_4, tz_5, tz_6, tz_7, tz_8, tz_9, tz_10, tz_60, tz_m1, tl_0, tl_1, tl_2, tl_3, tl_4, tl_5, tl_6, tl_7, tl_8, tl_9, tl_10, tl_60, tl_m1] at * <;> omega))
theorem lfctX11_write_1 (p0 : Int32) (c_2 : ¬ (0 ≤ p0.toInt64 ∧ p0.toInt64 ≤ 3)) : (-2) = (writeAns p0) := (by
  simp only [writeAns]
  repeat' split
  all_goals first | rfl | assumption | (exfalso; simp only [fa_lt, fa_le, fa_eq, fa_lt64, fa_le64, fa_eq64, Int32.toInt_toInt64, tz_0, tz_1, tz_2, tz_3, tz_4, tz_5, tz_6, tz_7, tz_8, tz_9, tz_10, tz_60, tz_m1, tl_0, tl_1, tl_2, tl_3, tl_4, tl_5, tl_6, tl_7, tl_8, tl_9, tl_10, tl_60, tl_m1] at * <;> omega))
set_option maxHeartbeats 4000000 in
set_option maxRecDepth 100000 in
theorem ctX11_write (l : Launch) (D : va_G) (k : Nat → ClassId) (n : Nat → Nat) (p0 : Int32) (p1 : Int32) (p2 : Int64)  : RO l yX11_write cX11_write 5 (some .int) 2 D k [.ref (n 0), .int p0, .int p1, .long p2] [((n 0), .inr (11, [.int 0, .ref (n 1), .ref (n 2), .ref (n 3), .ref (n 4), .int 0, .ref (n 5), .int 0, .int 0, .int 0, .int 0, .int 0, .int 0, .int (-1), .ref (n 6), .ref (n 7), .ref (n 8), .ref (n 9), .ref (n 10), .ref (n 11), .ref (n 12), .int 0, .int 0, .int 0, .int 0, .ref (n 13), .ref (n 14), .ref (n 15), .int 0, .int 0, .int 0, .ref (n 16), .ref (n 17), .int 0, .ref (n 18), .long 0, .long 0, .ref (n 19), .int 0, .long 0, .long 0, .long 0, .ref (n 20), .ref (n 21), .ref (n 22), .ref (n 23)])), ((n 1), .inl (k 0, 99, .inl (fun _ => 0))), ((n 20), .inl (k 0, 4, .inl m1))] (Qi (fun r : Int32 => r = (writeAns p0))) := by
  refine RO.of (by decide) (Nat.le_of_ble_eq_true rfl) ?_
  intro p e s m below meth c ls A args Q S hr hlk hQ hK hP hDW hA hS hl
  have hx := S.1
  have hb := S.2.1
  have hl : lv_has ls 5 [(0, .ref (n 0)), (1, .int p0), (2, .int p1), (3, .long p2)] := hl
  refine lv_iload_n hx hb dX11_write_0 rfl (lv_at hl 1 rfl) ?_
  refine x_roSi (As := [.int p0]) S hK hP hS hA hl mwX11_isSlot lkX11_425 (ctX11_isSlot l D k p0 ) [] rfl D_nil rfl rfl ⟨Nat.le_of_ble_eq_true rfl, Nat.le_of_ble_eq_true rfl, Nat.le_of_ble_eq_true rfl⟩ dX11_write_1 ⟨Nat.le_of_ble_eq_true rfl, Nat.le_of_ble_eq_true rfl⟩ (fun r_1 H locs hr_1 hP hS => ?_)
  subst hr_1
  refine lv_if_ne (tgt := 10) hx hb dX11_write_4 (by decide) (fun c_2 => ?_) (fun c_2 => ?_)
  · skip
    have c_2 : 0 ≤ p0.toInt64 ∧ p0.toInt64 ≤ 3 := bo_1.mp c_2
    obtain ⟨j, hj, ej⟩ : ∃ j : Nat, j < 4 ∧ p0 = nI j := nat4l c_2
    have hl : lv_has ls 5 [(0, .ref (n 0)), (1, .int (nI j)), (2, .int p1), (3, .long p2)] := by rw [ej] at hl; exact hl
    refine lv_aload_n hx hb dX11_write_10 rfl (lv_at hl 0 rfl) ?_
    refine x_get S hK hP 0 rfl cfX11 42 lkX11_73 (by decide) rfl dX11_write_11 ?_
    refine lv_iload_n hx hb dX11_write_14 rfl (lv_at hl 1 rfl) ?_
    refine x_iald S hK hP 2 rfl (vp_in_nI (by omega) (by decide)) dX11_write_15 ?_
    refine x_is (-1) (by rw [nI_clamp (by omega)]; exact m1_at (by omega)) ?_
    refine lv_iconst (v := (-1)) hx hb dX11_write_16 (by decide) ?_
    refine lv_icmp_ne (tgt := 23) hx hb dX11_write_17 (by decide) (fun c_3 => absurd (by decide) c_3) (fun c_3 => ?_)
    refine lv_bipush (v := (-6)) hx hb dX11_write_20 (by decide) ?_
    exact x_reti S hr hlk hQ hS () (lfctX11_write_0 p0 c_2) x_T dX11_write_22
  · skip
    have c_2 : ¬ (0 ≤ p0.toInt64 ∧ p0.toInt64 ≤ 3) := bo_0.mp c_2
    refine lv_bipush (v := (-2)) hx hb dX11_write_7 (by decide) ?_
    exact x_reti S hr hlk hQ hS () (lfctX11_write_1 p0 c_2) x_T dX11_write_9

theorem lfctX11_paste_0 (p0 : Int32) (p2 : Int32) (c_2 : ¬ (0 ≤ p0.toInt64 ∧ p0.toInt64 ≤ 3)) : (-2) = (pasteAns p0 p2) := (by
  simp only [pasteAns]
  repeat' split
  all_goals first | rfl | assumption | (exfalso; simp only [fa_lt, fa_le, fa_eq, fa_lt64, fa_le64, fa_eq64, Int32.toInt_toInt64, tz_0, tz_1, tz_2, tz_3, tz_4, tz_5, tz_6, tz_7, tz_8, tz_9, tz_10, tz_60, tz_m1, tl_0, tl_1, tl_2, tl_3, tl_4, tl_5, tl_6, tl_7, tl_8, tl_9, tl_10, tl_60, tl_m1] at * <;> omega))
theorem lfctX11_paste_1 (p0 : Int32) (p2 : Int32) (c_2 : 0 ≤ p0.toInt64 ∧ p0.toInt64 ≤ 3) (c_4 : 0 ≤ p2.toInt64 ∧ p2.toInt64 ≤ 3) : (-6) = (pasteAns p0 p2) := (by
  simp only [pasteAns]
  repeat' split
  all_goals first | rfl | assumption | (exfalso; simp only [fa_lt, fa_le, fa_eq, fa_lt64, fa_le64, fa_eq64, Int32.toInt_toInt64, tz_0, tz_1, tz_2, tz_3, tz_4, tz_5, tz_6, tz_7, tz_8, tz_9, tz_10, tz_60, tz_m1, tl_0, tl_1, tl_2, tl_3, tl_4, tl_5, tl_6, tl_7, tl_8, tl_9, tl_10, tl_60, tl_m1] at * <;> omega))
theorem lfctX11_paste_2 (p0 : Int32) (p2 : Int32) (c_2 : 0 ≤ p0.toInt64 ∧ p0.toInt64 ≤ 3) (c_4 : ¬ (0 ≤ p2.toInt64 ∧ p2.toInt64 ≤ 3)) : (-2) = (pasteAns p0 p2) := (by
  simp only [pasteAns]
  repeat' split
  all_goals first | rfl | assumption | (exfalso; simp only [fa_lt, fa_le, fa_eq, fa_lt64, fa_le64, fa_eq64, Int32.toInt_toInt64, tz_0, tz_1, tz_2, tz_3, tz_4, tz_5, tz_6, tz_7, tz_8, tz_9, tz_10, tz_60, tz_m1, tl_0, tl_1, tl_2, tl_3, tl_4, tl_5, tl_6, tl_7, tl_8, tl_9, tl_10, tl_60, tl_m1] at * <;> omega))
set_option maxHeartbeats 4000000 in
set_option maxRecDepth 100000 in
theorem ctX11_paste (l : Launch) (D : va_G) (k : Nat → ClassId) (n : Nat → Nat) (p0 : Int32) (p1 : Int32) (p2 : Int32) (p3 : Int32) (p4 : Int32)  : RO l yX11_paste cX11_paste 7 (some .int) 2 D k [.ref (n 0), .int p0, .int p1, .int p2, .int p3, .int p4] [((n 0), .inr (11, [.int 0, .ref (n 1), .ref (n 2), .ref (n 3), .ref (n 4), .int 0, .ref (n 5), .int 0, .int 0, .int 0, .int 0, .int 0, .int 0, .int (-1), .ref (n 6), .ref (n 7), .ref (n 8), .ref (n 9), .ref (n 10), .ref (n 11), .ref (n 12), .int 0, .int 0, .int 0, .int 0, .ref (n 13), .ref (n 14), .ref (n 15), .int 0, .int 0, .int 0, .ref (n 16), .ref (n 17), .int 0, .ref (n 18), .long 0, .long 0, .ref (n 19), .int 0, .long 0, .long 0, .long 0, .ref (n 20), .ref (n 21), .ref (n 22), .ref (n 23)])), ((n 1), .inl (k 0, 99, .inl (fun _ => 0))), ((n 20), .inl (k 0, 4, .inl m1))] (Qi (fun r : Int32 => r = (pasteAns p0 p2))) := by
  refine RO.of (by decide) (Nat.le_of_ble_eq_true rfl) ?_
  intro p e s m below meth c ls A args Q S hr hlk hQ hK hP hDW hA hS hl
  have hx := S.1
  have hb := S.2.1
  have hl : lv_has ls 7 [(0, .ref (n 0)), (1, .int p0), (2, .int p1), (3, .int p2), (4, .int p3), (5, .int p4)] := hl
  refine lv_iload_n hx hb dX11_paste_0 rfl (lv_at hl 1 rfl) ?_
  refine x_roSi (As := [.int p0]) S hK hP hS hA hl mwX11_isSlot lkX11_425 (ctX11_isSlot l D k p0 ) [] rfl D_nil rfl rfl ⟨Nat.le_of_ble_eq_true rfl, Nat.le_of_ble_eq_true rfl, Nat.le_of_ble_eq_true rfl⟩ dX11_paste_1 ⟨Nat.le_of_ble_eq_true rfl, Nat.le_of_ble_eq_true rfl⟩ (fun r_1 H locs hr_1 hP hS => ?_)
  subst hr_1
  refine lv_if_eq (tgt := 14) hx hb dX11_paste_4 (by decide) (fun c_2 => ?_) (fun c_2 => ?_)
  · skip
    have c_2 : ¬ (0 ≤ p0.toInt64 ∧ p0.toInt64 ≤ 3) := bo_0.mp c_2
    refine lv_bipush (v := (-2)) hx hb dX11_paste_14 (by decide) ?_
    exact x_reti S hr hlk hQ hS () (lfctX11_paste_0 p0 p2 c_2) x_T dX11_paste_16
  · skip
    have c_2 : 0 ≤ p0.toInt64 ∧ p0.toInt64 ≤ 3 := bo_1.mp c_2
    refine lv_iload_n hx hb dX11_paste_7 rfl (lv_at hl 3 rfl) ?_
    refine x_roSi (As := [.int p2]) S hK hP hS hA hl mwX11_isSlot lkX11_425 (ctX11_isSlot l D k p2 ) [] rfl D_nil rfl rfl ⟨Nat.le_of_ble_eq_true rfl, Nat.le_of_ble_eq_true rfl, Nat.le_of_ble_eq_true rfl⟩ dX11_paste_8 ⟨Nat.le_of_ble_eq_true rfl, Nat.le_of_ble_eq_true rfl⟩ (fun r_3 H locs hr_3 hP hS => ?_)
    subst hr_3
    refine lv_if_ne (tgt := 17) hx hb dX11_paste_11 (by decide) (fun c_4 => ?_) (fun c_4 => ?_)
    · skip
      have c_4 : 0 ≤ p2.toInt64 ∧ p2.toInt64 ≤ 3 := bo_1.mp c_4
      obtain ⟨j, hj, ej⟩ : ∃ j : Nat, j < 4 ∧ p0 = nI j := nat4l c_2
      have hl : lv_has ls 7 [(0, .ref (n 0)), (1, .int (nI j)), (2, .int p1), (3, .int p2), (4, .int p3), (5, .int p4)] := by rw [ej] at hl; exact hl
      obtain ⟨i, hi, ei⟩ : ∃ i : Nat, i < 4 ∧ p2 = nI i := nat4l c_4
      have hl : lv_has ls 7 [(0, .ref (n 0)), (1, .int (nI j)), (2, .int p1), (3, .int (nI i)), (4, .int p3), (5, .int p4)] := by rw [ei] at hl; exact hl
      refine lv_aload_n hx hb dX11_paste_17 rfl (lv_at hl 0 rfl) ?_
      refine x_get S hK hP 0 rfl cfX11 42 lkX11_73 (by decide) rfl dX11_paste_18 ?_
      refine lv_iload_n hx hb dX11_paste_21 rfl (lv_at hl 1 rfl) ?_
      refine x_iald S hK hP 2 rfl (vp_in_nI (by omega) (by decide)) dX11_paste_22 ?_
      refine x_is (-1) (by rw [nI_clamp (by omega)]; exact m1_at (by omega)) ?_
      refine lv_iconst (v := (-1)) hx hb dX11_paste_23 (by decide) ?_
      refine lv_icmp_eq (tgt := 37) hx hb dX11_paste_24 (by decide) (fun c_5 => ?_) (fun c_5 => absurd (by decide) c_5)
      refine lv_bipush (v := (-6)) hx hb dX11_paste_37 (by decide) ?_
      exact x_reti S hr hlk hQ hS () (lfctX11_paste_1 p0 p2 c_2 c_4) x_T dX11_paste_39
    · skip
      have c_4 : ¬ (0 ≤ p2.toInt64 ∧ p2.toInt64 ≤ 3) := bo_0.mp c_4
      refine lv_bipush (v := (-2)) hx hb dX11_paste_14 (by decide) ?_
      exact x_reti S hr hlk hQ hS () (lfctX11_paste_2 p0 p2 c_2 c_4) x_T dX11_paste_16

theorem lfctX11_row_0 (p0 : Int32) (p1 : Int32) (p2 : Int32) (c_2 : ¬ (0 ≤ p0.toInt64 ∧ p0.toInt64 ≤ 3)) : (-2) = (rowAns p0 p1 p2) := (by
  simp only [rowAns]
  repeat' split
  all_goals first | rfl | assumption | (exfalso; simp only [fa_lt, fa_le, fa_eq, fa_lt64, fa_le64, fa_eq64, Int32.toInt_toInt64, tz_0, tz_1, tz_2, tz_3, tz_4, tz_5, tz_6, tz_7, tz_8, tz_9, tz_10, tz_60, tz_m1, tl_0, tl_1, tl_2, tl_3, tl_4, tl_5, tl_6, tl_7, tl_8, tl_9, tl_10, tl_60, tl_m1] at * <;> omega))
theorem lfctX11_row_1 (p0 : Int32) (p1 : Int32) (p2 : Int32) (c_2 : 0 ≤ p0.toInt64 ∧ p0.toInt64 ≤ 3) (c_4 : ¬ (0 ≤ p1.toInt64 ∧ p1.toInt64 ≤ 3)) : (-2) = (rowAns p0 p1 p2) := (by
  simp only [rowAns]
  repeat' split
  all_goals first | rfl | assumption | (exfalso; simp only [fa_lt, fa_le, fa_eq, fa_lt64, fa_le64, fa_eq64, Int32.toInt_toInt64, tz_0, tz_1, tz_2, tz_3, tz_4, tz_5, tz_6, tz_7, tz_8, tz_9, tz_10, tz_60, tz_m1, tl_0, tl_1, tl_2, tl_3, tl_4, tl_5, tl_6, tl_7, tl_8, tl_9, tl_10, tl_60, tl_m1] at * <;> omega))
theorem lfctX11_row_2 (p0 : Int32) (p1 : Int32) (p2 : Int32) (c_2 : 0 ≤ p0.toInt64 ∧ p0.toInt64 ≤ 3) (c_4 : 0 ≤ p1.toInt64 ∧ p1.toInt64 ≤ 3) (c_5 : p2 ≤ 60) (c_6 : 0 ≤ p2) : 0 = (rowAns p0 p1 p2) := (by
  simp only [rowAns]
  repeat' split
  all_goals first | rfl | assumption | (exfalso; simp only [fa_lt, fa_le, fa_eq, fa_lt64, fa_le64, fa_eq64, Int32.toInt_toInt64, tz_0, tz_1, tz_2, tz_3, tz_4, tz_5, tz_6, tz_7, tz_8, tz_9, tz_10, tz_60, tz_m1, tl_0, tl_1, tl_2, tl_3, tl_4, tl_5, tl_6, tl_7, tl_8, tl_9, tl_10, tl_60, tl_m1] at * <;> omega))
theorem lfctX11_row_3 (p0 : Int32) (p1 : Int32) (p2 : Int32) (c_2 : 0 ≤ p0.toInt64 ∧ p0.toInt64 ≤ 3) (c_4 : 0 ≤ p1.toInt64 ∧ p1.toInt64 ≤ 3) (c_5 : p2 ≤ 60) (c_6 : ¬ 0 ≤ p2) : (-3) = (rowAns p0 p1 p2) := (by
  simp only [rowAns]
  repeat' split
  all_goals first | rfl | assumption | (exfalso; simp only [fa_lt, fa_le, fa_eq, fa_lt64, fa_le64, fa_eq64, Int32.toInt_toInt64, tz_0, tz_1, tz_2, tz_3, tz_4, tz_5, tz_6, tz_7, tz_8, tz_9, tz_10, tz_60, tz_m1, tl_0, tl_1, tl_2, tl_3, tl_4, tl_5, tl_6, tl_7, tl_8, tl_9, tl_10, tl_60, tl_m1] at * <;> omega))
theorem lfctX11_row_4 (p0 : Int32) (p1 : Int32) (p2 : Int32) (c_2 : 0 ≤ p0.toInt64 ∧ p0.toInt64 ≤ 3) (c_4 : 0 ≤ p1.toInt64 ∧ p1.toInt64 ≤ 3) (c_5 : ¬ p2 ≤ 60) : (-2) = (rowAns p0 p1 p2) := (by
  simp only [rowAns]
  repeat' split
  all_goals first | rfl | assumption | (exfalso; simp only [fa_lt, fa_le, fa_eq, fa_lt64, fa_le64, fa_eq64, Int32.toInt_toInt64, tz_0, tz_1, tz_2, tz_3, tz_4, tz_5, tz_6, tz_7, tz_8, tz_9, tz_10, tz_60, tz_m1, tl_0, tl_1, tl_2, tl_3, tl_4, tl_5, tl_6, tl_7, tl_8, tl_9, tl_10, tl_60, tl_m1] at * <;> omega))
set_option maxHeartbeats 4000000 in
set_option maxRecDepth 100000 in
theorem ctX11_row (l : Launch) (D : va_G) (k : Nat → ClassId) (n : Nat → Nat) (p0 : Int32) (p1 : Int32) (p2 : Int32)  : MU l yX11_row cX11_row 5 (some .int) 2 D k [.ref (n 0), .int p0, .int p1, .int p2] [((n 0), .inr (11, [.int 0, .ref (n 1), .ref (n 2), .ref (n 3), .ref (n 4), .int 0, .ref (n 5), .int 0, .int 0, .int 0, .int 0, .int 0, .int 0, .int (-1), .ref (n 6), .ref (n 7), .ref (n 8), .ref (n 9), .ref (n 10), .ref (n 11), .ref (n 12), .int 0, .int 0, .int 0, .int 0, .ref (n 13), .ref (n 14), .ref (n 15), .int 0, .int 0, .int 0, .ref (n 16), .ref (n 17), .int 0, .ref (n 18), .long 0, .long 0, .ref (n 19), .int 0, .long 0, .long 0, .long 0, .ref (n 20), .ref (n 21), .ref (n 22), .ref (n 23)])), ((n 1), .inl (k 0, 99, .inl (fun _ => 0))), ((n 20), .inl (k 0, 4, .inl m1)), ((n 21), .inl (k 0, 4, .inl (fun _ => 0))), ((n 22), .inl (k 2, 240, .inr (.inl (fun _ => 0))))] 0 0 (Ui D (fun (r : Int32) (u : Unit) => r = (rowAns p0 p1 p2)) (fun _ : Unit => [])) := by
  refine MU.of (by decide) (Nat.le_of_ble_eq_true rfl) ?_
  intro p e s m below meth c ls A args Q S hr hlk hnm hQ hK hP hD hA hS hl
  have hx := S.1
  have hb := S.2.1
  have hl : lv_has ls 5 [(0, .ref (n 0)), (1, .int p0), (2, .int p1), (3, .int p2)] := hl
  refine lv_iload_n hx hb dX11_row_0 rfl (lv_at hl 1 rfl) ?_
  refine x_roSi (As := [.int p0]) S hK hP hS hA hl mwX11_isSlot lkX11_425 (ctX11_isSlot l D k p0 ) [] rfl D_nil rfl rfl ⟨Nat.le_of_ble_eq_true rfl, Nat.le_of_ble_eq_true rfl, Nat.le_of_ble_eq_true rfl⟩ dX11_row_1 ⟨Nat.le_of_ble_eq_true rfl, Nat.le_of_ble_eq_true rfl⟩ (fun r_1 H locs hr_1 hP hS => ?_)
  subst hr_1
  refine lv_if_eq (tgt := 25) hx hb dX11_row_4 (by decide) (fun c_2 => ?_) (fun c_2 => ?_)
  · skip
    have c_2 : ¬ (0 ≤ p0.toInt64 ∧ p0.toInt64 ≤ 3) := bo_0.mp c_2
    refine lv_bipush (v := (-2)) hx hb dX11_row_25 (by decide) ?_
    exact x_reti S hr hlk hQ hS () (lfctX11_row_0 p0 p1 p2 c_2) (x_B P_nil D_nil) dX11_row_27
  · skip
    have c_2 : 0 ≤ p0.toInt64 ∧ p0.toInt64 ≤ 3 := bo_1.mp c_2
    refine lv_iload_n hx hb dX11_row_7 rfl (lv_at hl 2 rfl) ?_
    refine lv_i2l (v := p1.toInt64) hx hb dX11_row_8 rfl ?_
    refine lv_lconst (v := 0) hx hb dX11_row_9 (by decide) ?_
    refine lv_ldc2 hx hb S.2.2.2.1 (S.2.2.2.2 _ lkX11_241) dX11_row_10 ?_
    refine x_roSi (As := [.long (p1.toInt64), .long 0, .long 3]) S hK hP hS hA hl mwX11_in lkX11_91 (ctX11_in l D k (p1.toInt64) 0 3 ) [] rfl D_nil rfl rfl ⟨Nat.le_of_ble_eq_true rfl, Nat.le_of_ble_eq_true rfl, Nat.le_of_ble_eq_true rfl⟩ dX11_row_13 ⟨Nat.le_of_ble_eq_true rfl, Nat.le_of_ble_eq_true rfl⟩ (fun r_3 H locs hr_3 hP hS => ?_)
    subst hr_3
    refine lv_if_eq (tgt := 25) hx hb dX11_row_16 (by decide) (fun c_4 => ?_) (fun c_4 => ?_)
    · skip
      have c_4 : ¬ (0 ≤ p1.toInt64 ∧ p1.toInt64 ≤ 3) := bo_0.mp c_4
      refine lv_bipush (v := (-2)) hx hb dX11_row_25 (by decide) ?_
      exact x_reti S hr hlk hQ hS () (lfctX11_row_1 p0 p1 p2 c_2 c_4) (x_B P_nil D_nil) dX11_row_27
    · skip
      have c_4 : 0 ≤ p1.toInt64 ∧ p1.toInt64 ≤ 3 := bo_1.mp c_4
      refine lv_iload_n hx hb dX11_row_19 rfl (lv_at hl 3 rfl) ?_
      refine lv_bipush (v := 60) hx hb dX11_row_20 (by decide) ?_
      refine lv_icmp_le (tgt := 28) hx hb dX11_row_22 (by decide) (fun c_5 => ?_) (fun c_5 => ?_)
      · skip
        refine lv_iload_n hx hb dX11_row_28 rfl (lv_at hl 3 rfl) ?_
        refine lv_if_ge (tgt := 35) hx hb dX11_row_29 (by decide) (fun c_6 => ?_) (fun c_6 => ?_)
        · skip
          obtain ⟨j, hj, ej⟩ : ∃ j : Nat, j < 4 ∧ p0 = nI j := nat4l c_2
          have hl : lv_has ls 5 [(0, .ref (n 0)), (1, .int (nI j)), (2, .int p1), (3, .int p2)] := by rw [ej] at hl; exact hl
          refine lv_aload_n hx hb dX11_row_35 rfl (lv_at hl 0 rfl) ?_
          refine x_get S hK hP 0 rfl cfX11 42 lkX11_73 (by decide) rfl dX11_row_36 ?_
          refine lv_iload_n hx hb dX11_row_39 rfl (lv_at hl 1 rfl) ?_
          refine lv_iload_n hx hb dX11_row_40 rfl (lv_at hl 3 rfl) ?_
          refine x_iast (ws' := fun f_7 => [((n 0), .inr (11, [.int 0, .ref (n 1), .ref (n 2), .ref (n 3), .ref (n 4), .int 0, .ref (n 5), .int 0, .int 0, .int 0, .int 0, .int 0, .int 0, .int (-1), .ref (n 6), .ref (n 7), .ref (n 8), .ref (n 9), .ref (n 10), .ref (n 11), .ref (n 12), .int 0, .int 0, .int 0, .int 0, .ref (n 13), .ref (n 14), .ref (n 15), .int 0, .int 0, .int 0, .ref (n 16), .ref (n 17), .int 0, .ref (n 18), .long 0, .long 0, .ref (n 19), .int 0, .long 0, .long 0, .long 0, .ref (n 20), .ref (n 21), .ref (n 22), .ref (n 23)])), ((n 1), .inl (k 0, 99, .inl (fun _ => 0))), ((n 20), .inl (k 0, 4, .inl f_7)), ((n 21), .inl (k 0, 4, .inl (fun _ => 0))), ((n 22), .inl (k 2, 240, .inr (.inl (fun _ => 0))))]) S hK hP hD hS 2 rfl (vp_in_nI (by omega) (by decide)) (fun _ => rfl) dX11_row_41 (fun f_7 H locs ef_7 hP hD hS => ?_)
          refine lv_aload_n hx hb dX11_row_42 rfl (lv_at hl 0 rfl) ?_
          refine x_get S hK hP 0 rfl cfX11 43 lkX11_76 (by decide) rfl dX11_row_43 ?_
          refine lv_iload_n hx hb dX11_row_46 rfl (lv_at hl 1 rfl) ?_
          refine lv_iload_n hx hb dX11_row_47 rfl (lv_at hl 2 rfl) ?_
          refine x_iast (ws' := fun f_8 => [((n 0), .inr (11, [.int 0, .ref (n 1), .ref (n 2), .ref (n 3), .ref (n 4), .int 0, .ref (n 5), .int 0, .int 0, .int 0, .int 0, .int 0, .int 0, .int (-1), .ref (n 6), .ref (n 7), .ref (n 8), .ref (n 9), .ref (n 10), .ref (n 11), .ref (n 12), .int 0, .int 0, .int 0, .int 0, .ref (n 13), .ref (n 14), .ref (n 15), .int 0, .int 0, .int 0, .ref (n 16), .ref (n 17), .int 0, .ref (n 18), .long 0, .long 0, .ref (n 19), .int 0, .long 0, .long 0, .long 0, .ref (n 20), .ref (n 21), .ref (n 22), .ref (n 23)])), ((n 1), .inl (k 0, 99, .inl (fun _ => 0))), ((n 20), .inl (k 0, 4, .inl f_7)), ((n 21), .inl (k 0, 4, .inl f_8)), ((n 22), .inl (k 2, 240, .inr (.inl (fun _ => 0))))]) S hK hP hD hS 3 rfl (vp_in_nI (by omega) (by decide)) (fun _ => rfl) dX11_row_48 (fun f_8 H locs ef_8 hP hD hS => ?_)
          refine lv_iconst (v := 0) hx hb dX11_row_49 (by decide) ?_
          refine lv_istore (lv' := [(4, .int 0), (0, .ref (n 0)), (1, .int (nI j)), (2, .int p1), (3, .int p2)]) hx hb dX11_row_50 hl (by decide) rfl (fun ls hl => ?_)
          have lp_11 : ∀ (nn j_9 : Nat) (g_10 : Nat → Int64) (H : Heap) (locs : List Loc) (ls : Array Slot), j_9 ≤ 60 → 60 - j_9 < nn → va_P D vwCl [((n 0), .inr (11, [.int 0, .ref (n 1), .ref (n 2), .ref (n 3), .ref (n 4), .int 0, .ref (n 5), .int 0, .int 0, .int 0, .int 0, .int 0, .int 0, .int (-1), .ref (n 6), .ref (n 7), .ref (n 8), .ref (n 9), .ref (n 10), .ref (n 11), .ref (n 12), .int 0, .int 0, .int 0, .int 0, .ref (n 13), .ref (n 14), .ref (n 15), .int 0, .int 0, .int 0, .ref (n 16), .ref (n 17), .int 0, .ref (n 18), .long 0, .long 0, .ref (n 19), .int 0, .long 0, .long 0, .long 0, .ref (n 20), .ref (n 21), .ref (n 22), .ref (n 23)])), ((n 1), .inl (k 0, 99, .inl (fun _ => 0))), ((n 20), .inl (k 0, 4, .inl f_7)), ((n 21), .inl (k 0, 4, .inl f_8)), ((n 22), .inl (k 2, 240, .inr (.inl g_10)))] H → va_D A [((n 0), .inr (11, [.int 0, .ref (n 1), .ref (n 2), .ref (n 3), .ref (n 4), .int 0, .ref (n 5), .int 0, .int 0, .int 0, .int 0, .int 0, .int 0, .int (-1), .ref (n 6), .ref (n 7), .ref (n 8), .ref (n 9), .ref (n 10), .ref (n 11), .ref (n 12), .int 0, .int 0, .int 0, .int 0, .ref (n 13), .ref (n 14), .ref (n 15), .int 0, .int 0, .int 0, .ref (n 16), .ref (n 17), .int 0, .ref (n 18), .long 0, .long 0, .ref (n 19), .int 0, .long 0, .long 0, .long 0, .ref (n 20), .ref (n 21), .ref (n 22), .ref (n 23)])), ((n 1), .inl (k 0, 99, .inl (fun _ => 0))), ((n 20), .inl (k 0, 4, .inl f_7)), ((n 21), .inl (k 0, 4, .inl f_8)), ((n 22), .inl (k 2, 240, .inr (.inl g_10)))] → va_S A s.heap H locs → lv_has ls 5 [(4, .int (nI j_9)), (0, .ref (n 0)), (1, .int (nI j)), (2, .int p1), (3, .int p2)] → W p l e (Rm 2 0 0) s m args below meth c H locs 0 0 Q (F0 m 52 ls []) := by
            intro nn
            induction nn with
            | zero => intro j_9 g_10 H locs ls hjj_9 hnj_9; exact absurd hnj_9 (by omega)
            | succ nn ihj_9 =>
              intro j_9 g_10 H locs ls hjj_9 hnj_9 hP hD hS hl
              refine lv_iload hx hb dX11_row_52 (lv_at hl 0 rfl) ?_
              refine lv_bipush (v := 60) hx hb dX11_row_54 (by decide) ?_
              refine lv_icmp_ge (tgt := 78) hx hb dX11_row_56 (by decide) (fun c_12 => ?_) (fun c_12 => ?_)
              · skip
                have c_12 : 60 ≤ j_9 := (ni_le (by decide) rfl (by omega) (by omega)).mp c_12
                refine lv_iconst (v := 0) hx hb dX11_row_78 (by decide) ?_
                exact x_reti S hr hlk hQ hS () (lfctX11_row_2 p0 p1 p2 c_2 c_4 c_5 c_6) (x_B P_nil D_nil) dX11_row_79
              · skip
                have c_12 : ¬ 60 ≤ j_9 := fun q => c_12 ((ni_le (by decide) rfl (by omega) (by omega)).mpr q)
                refine lv_aload_n hx hb dX11_row_59 rfl (lv_at hl 1 rfl) ?_
                refine x_get S hK hP 0 rfl cfX11 44 lkX11_79 (by decide) rfl dX11_row_60 ?_
                refine lv_bipush (v := 60) hx hb dX11_row_63 (by decide) ?_
                refine lv_iload_n hx hb dX11_row_65 rfl (lv_at hl 2 rfl) ?_
                refine lv_imul hx hb dX11_row_66 ?_
                refine x_is (nI (60 * j)) (ni_mul (by decide) rfl) ?_
                refine lv_iload hx hb dX11_row_67 (lv_at hl 0 rfl) ?_
                refine lv_iadd hx hb dX11_row_69 ?_
                refine x_is (nI (60 * j + j_9)) (ni_add rfl rfl) ?_
                refine lv_lconst (v := 0) hx hb dX11_row_70 (by decide) ?_
                refine x_last (ws' := fun f_13 => [((n 0), .inr (11, [.int 0, .ref (n 1), .ref (n 2), .ref (n 3), .ref (n 4), .int 0, .ref (n 5), .int 0, .int 0, .int 0, .int 0, .int 0, .int 0, .int (-1), .ref (n 6), .ref (n 7), .ref (n 8), .ref (n 9), .ref (n 10), .ref (n 11), .ref (n 12), .int 0, .int 0, .int 0, .int 0, .ref (n 13), .ref (n 14), .ref (n 15), .int 0, .int 0, .int 0, .ref (n 16), .ref (n 17), .int 0, .ref (n 18), .long 0, .long 0, .ref (n 19), .int 0, .long 0, .long 0, .long 0, .ref (n 20), .ref (n 21), .ref (n 22), .ref (n 23)])), ((n 1), .inl (k 0, 99, .inl (fun _ => 0))), ((n 20), .inl (k 0, 4, .inl f_7)), ((n 21), .inl (k 0, 4, .inl f_8)), ((n 22), .inl (k 2, 240, .inr (.inl f_13)))]) S hK hP hD hS 4 rfl (vp_in_nI (by omega) (by decide)) (fun _ => rfl) dX11_row_71 (fun f_13 H locs ef_13 hP hD hS => ?_)
                refine lv_iinc (v := (nI (j_9 + 1))) (lv' := [(4, .int (nI (j_9 + 1))), (0, .ref (n 0)), (1, .int (nI j)), (2, .int p1), (3, .int p2)]) hx hb dX11_row_72 hl (k := 0) rfl (ni_inc _) (by decide) rfl (fun ls hl => ?_)
                refine lv_goto (tgt := 52) hx hb dX11_row_75 (by decide) ?_
                exact ihj_9 (j_9 + 1) f_13 _ _ _ (by omega) (by omega) hP hD hS (lv_sub hl [0, 1, 2, 3, 4] rfl)
          exact lp_11 (60 + 1) 0 (fun _ => 0) _ _ _ (by omega) (by omega) hP hD hS (lv_sub hl [0, 1, 2, 3, 4] rfl)
        · skip
          refine lv_bipush (v := (-3)) hx hb dX11_row_32 (by decide) ?_
          exact x_reti S hr hlk hQ hS () (lfctX11_row_3 p0 p1 p2 c_2 c_4 c_5 c_6) (x_B P_nil D_nil) dX11_row_34
      · skip
        refine lv_bipush (v := (-2)) hx hb dX11_row_25 (by decide) ?_
        exact x_reti S hr hlk hQ hS () (lfctX11_row_4 p0 p1 p2 c_2 c_4 c_5) (x_B P_nil D_nil) dX11_row_27

theorem lfctX11_image_0 (p0 : Int32) (c_2 : 0 ≤ p0.toInt64 ∧ p0.toInt64 ≤ 2) : 0 = (imageAns p0) := (by
  simp only [imageAns]
  repeat' split
  all_goals first | rfl | assumption | (exfalso; simp only [fa_lt, fa_le, fa_eq, fa_lt64, fa_le64, fa_eq64, Int32.toInt_toInt64, tz_0, tz_1, tz_2, tz_3, tz_4, tz_5, tz_6, tz_7, tz_8, tz_9, tz_10, tz_60, tz_m1, tl_0, tl_1, tl_2, tl_3, tl_4, tl_5, tl_6, tl_7, tl_8, tl_9, tl_10, tl_60, tl_m1] at * <;> omega))
theorem lfctX11_image_1 (p0 : Int32) (c_2 : ¬ (0 ≤ p0.toInt64 ∧ p0.toInt64 ≤ 2)) : (-2) = (imageAns p0) := (by
  simp only [imageAns]
  repeat' split
  all_goals first | rfl | assumption | (exfalso; simp only [fa_lt, fa_le, fa_eq, fa_lt64, fa_le64, fa_eq64, Int32.toInt_toInt64, tz_0, tz_1, tz_2, tz_3, tz_4, tz_5, tz_6, tz_7, tz_8, tz_9, tz_10, tz_60, tz_m1, tl_0, tl_1, tl_2, tl_3, tl_4, tl_5, tl_6, tl_7, tl_8, tl_9, tl_10, tl_60, tl_m1] at * <;> omega))
set_option maxHeartbeats 4000000 in
set_option maxRecDepth 100000 in
theorem ctX11_image (l : Launch) (D : va_G) (k : Nat → ClassId) (n : Nat → Nat) (p0 : Int32)  : MU l yX11_image cX11_image 3 (some .int) 1 D k [.ref (n 0), .int p0] [((n 0), .inr (11, [.int 0, .ref (n 1), .ref (n 2), .ref (n 3), .ref (n 4), .int 0, .ref (n 5), .int 0, .int 0, .int 0, .int 0, .int 0, .int 0, .int (-1), .ref (n 6), .ref (n 7), .ref (n 8), .ref (n 9), .ref (n 10), .ref (n 11), .ref (n 12), .int 0, .int 0, .int 0, .int 0, .ref (n 13), .ref (n 14), .ref (n 15), .int 0, .int 0, .int 0, .ref (n 16), .ref (n 17), .int 0, .ref (n 18), .long 0, .long 0, .ref (n 19), .int 0, .long 0, .long 0, .long 0, .ref (n 20), .ref (n 21), .ref (n 22), .ref (n 23)])), ((n 1), .inl (k 0, 99, .inl (fun _ => 0))), ((n 2), .inl (k 0, 297, .inl (fun _ => 0))), ((n 3), .inl (k 3, 3, .inl (fun _ => 0)))] 0 0 (Ui D (fun (r : Int32) (u : Unit) => r = (imageAns p0)) (fun _ : Unit => [])) := by
  refine MU.of (by decide) (Nat.le_of_ble_eq_true rfl) ?_
  intro p e s m below meth c ls A args Q S hr hlk hnm hQ hK hP hD hA hS hl
  have hx := S.1
  have hb := S.2.1
  have hl : lv_has ls 3 [(0, .ref (n 0)), (1, .int p0)] := hl
  refine lv_iload_n hx hb dX11_image_0 rfl (lv_at hl 1 rfl) ?_
  refine lv_i2l (v := p0.toInt64) hx hb dX11_image_1 rfl ?_
  refine lv_lconst (v := 0) hx hb dX11_image_2 (by decide) ?_
  refine lv_ldc2 hx hb S.2.2.2.1 (S.2.2.2.2 _ lkX11_89) dX11_image_3 ?_
  refine x_roSi (As := [.long (p0.toInt64), .long 0, .long 2]) S hK hP hS hA hl mwX11_in lkX11_91 (ctX11_in l D k (p0.toInt64) 0 2 ) [] rfl D_nil rfl rfl ⟨Nat.le_of_ble_eq_true rfl, Nat.le_of_ble_eq_true rfl, Nat.le_of_ble_eq_true rfl⟩ dX11_image_6 ⟨Nat.le_of_ble_eq_true rfl, Nat.le_of_ble_eq_true rfl⟩ (fun r_1 H locs hr_1 hP hS => ?_)
  subst hr_1
  refine lv_if_ne (tgt := 15) hx hb dX11_image_9 (by decide) (fun c_2 => ?_) (fun c_2 => ?_)
  · skip
    have c_2 : 0 ≤ p0.toInt64 ∧ p0.toInt64 ≤ 2 := bo_1.mp c_2
    obtain ⟨j, hj, ej⟩ : ∃ j : Nat, j < 3 ∧ p0 = nI j := nat3l c_2
    have hl : lv_has ls 3 [(0, .ref (n 0)), (1, .int (nI j))] := by rw [ej] at hl; exact hl
    refine lv_iconst (v := 0) hx hb dX11_image_15 (by decide) ?_
    refine lv_istore_n (lv' := [(2, .int 0), (0, .ref (n 0)), (1, .int (nI j))]) hx hb dX11_image_16 rfl hl (by decide) rfl (fun ls hl => ?_)
    have lp_5 : ∀ (nn j_3 : Nat) (g_4 : Nat → Int32) (H : Heap) (locs : List Loc) (ls : Array Slot), j_3 ≤ 99 → 99 - j_3 < nn → va_P D vwCl [((n 0), .inr (11, [.int 0, .ref (n 1), .ref (n 2), .ref (n 3), .ref (n 4), .int 0, .ref (n 5), .int 0, .int 0, .int 0, .int 0, .int 0, .int 0, .int (-1), .ref (n 6), .ref (n 7), .ref (n 8), .ref (n 9), .ref (n 10), .ref (n 11), .ref (n 12), .int 0, .int 0, .int 0, .int 0, .ref (n 13), .ref (n 14), .ref (n 15), .int 0, .int 0, .int 0, .ref (n 16), .ref (n 17), .int 0, .ref (n 18), .long 0, .long 0, .ref (n 19), .int 0, .long 0, .long 0, .long 0, .ref (n 20), .ref (n 21), .ref (n 22), .ref (n 23)])), ((n 1), .inl (k 0, 99, .inl (fun _ => 0))), ((n 2), .inl (k 0, 297, .inl g_4)), ((n 3), .inl (k 3, 3, .inl (fun _ => 0)))] H → va_D A [((n 0), .inr (11, [.int 0, .ref (n 1), .ref (n 2), .ref (n 3), .ref (n 4), .int 0, .ref (n 5), .int 0, .int 0, .int 0, .int 0, .int 0, .int 0, .int (-1), .ref (n 6), .ref (n 7), .ref (n 8), .ref (n 9), .ref (n 10), .ref (n 11), .ref (n 12), .int 0, .int 0, .int 0, .int 0, .ref (n 13), .ref (n 14), .ref (n 15), .int 0, .int 0, .int 0, .ref (n 16), .ref (n 17), .int 0, .ref (n 18), .long 0, .long 0, .ref (n 19), .int 0, .long 0, .long 0, .long 0, .ref (n 20), .ref (n 21), .ref (n 22), .ref (n 23)])), ((n 1), .inl (k 0, 99, .inl (fun _ => 0))), ((n 2), .inl (k 0, 297, .inl g_4)), ((n 3), .inl (k 3, 3, .inl (fun _ => 0)))] → va_S A s.heap H locs → lv_has ls 3 [(2, .int (nI j_3)), (0, .ref (n 0)), (1, .int (nI j))] → W p l e (Rm 1 0 0) s m args below meth c H locs 0 0 Q (F0 m 17 ls []) := by
      intro nn
      induction nn with
      | zero => intro j_3 g_4 H locs ls hjj_3 hnj_3; exact absurd hnj_3 (by omega)
      | succ nn ihj_3 =>
        intro j_3 g_4 H locs ls hjj_3 hnj_3 hP hD hS hl
        refine lv_iload_n hx hb dX11_image_17 rfl (lv_at hl 0 rfl) ?_
        refine lv_bipush (v := 99) hx hb dX11_image_18 (by decide) ?_
        refine lv_icmp_ge (tgt := 46) hx hb dX11_image_20 (by decide) (fun c_6 => ?_) (fun c_6 => ?_)
        · skip
          have c_6 : 99 ≤ j_3 := (ni_le (by decide) rfl (by omega) (by omega)).mp c_6
          refine lv_aload_n hx hb dX11_image_46 rfl (lv_at hl 1 rfl) ?_
          refine x_get S hK hP 0 rfl cfX11 3 lkX11_16 (by decide) rfl dX11_image_47 ?_
          refine lv_iload_n hx hb dX11_image_50 rfl (lv_at hl 2 rfl) ?_
          refine lv_iconst (v := 1) hx hb dX11_image_51 (by decide) ?_
          refine x_zast (ws' := fun f_7 => [((n 0), .inr (11, [.int 0, .ref (n 1), .ref (n 2), .ref (n 3), .ref (n 4), .int 0, .ref (n 5), .int 0, .int 0, .int 0, .int 0, .int 0, .int 0, .int (-1), .ref (n 6), .ref (n 7), .ref (n 8), .ref (n 9), .ref (n 10), .ref (n 11), .ref (n 12), .int 0, .int 0, .int 0, .int 0, .ref (n 13), .ref (n 14), .ref (n 15), .int 0, .int 0, .int 0, .ref (n 16), .ref (n 17), .int 0, .ref (n 18), .long 0, .long 0, .ref (n 19), .int 0, .long 0, .long 0, .long 0, .ref (n 20), .ref (n 21), .ref (n 22), .ref (n 23)])), ((n 1), .inl (k 0, 99, .inl (fun _ => 0))), ((n 2), .inl (k 0, 297, .inl g_4)), ((n 3), .inl (k 3, 3, .inl f_7))]) S hK hP hD hS 3 rfl (vp_in_nI (by omega) (by decide)) (fun _ => rfl) dX11_image_52 (fun f_7 H locs ef_7 hP hD hS => ?_)
          refine lv_iconst (v := 0) hx hb dX11_image_53 (by decide) ?_
          exact x_reti S hr hlk hQ hS () (lfctX11_image_0 p0 c_2) (x_B P_nil D_nil) dX11_image_54
        · skip
          have c_6 : ¬ 99 ≤ j_3 := fun q => c_6 ((ni_le (by decide) rfl (by omega) (by omega)).mpr q)
          refine lv_aload_n hx hb dX11_image_23 rfl (lv_at hl 1 rfl) ?_
          refine x_get S hK hP 0 rfl cfX11 2 lkX11_13 (by decide) rfl dX11_image_24 ?_
          refine lv_bipush (v := 99) hx hb dX11_image_27 (by decide) ?_
          refine lv_iload_n hx hb dX11_image_29 rfl (lv_at hl 2 rfl) ?_
          refine lv_imul hx hb dX11_image_30 ?_
          refine x_is (nI (99 * j)) (ni_mul (by decide) rfl) ?_
          refine lv_iload_n hx hb dX11_image_31 rfl (lv_at hl 0 rfl) ?_
          refine lv_iadd hx hb dX11_image_32 ?_
          refine x_is (nI (99 * j + j_3)) (ni_add rfl rfl) ?_
          refine lv_aload_n hx hb dX11_image_33 rfl (lv_at hl 1 rfl) ?_
          refine x_get S hK hP 0 rfl cfX11 1 lkX11_9 (by decide) rfl dX11_image_34 ?_
          refine lv_iload_n hx hb dX11_image_37 rfl (lv_at hl 0 rfl) ?_
          refine x_iald S hK hP 1 rfl (vp_in_nI (by omega) (by decide)) dX11_image_38 ?_
          refine x_is 0 rfl ?_
          refine x_iast (ws' := fun f_8 => [((n 0), .inr (11, [.int 0, .ref (n 1), .ref (n 2), .ref (n 3), .ref (n 4), .int 0, .ref (n 5), .int 0, .int 0, .int 0, .int 0, .int 0, .int 0, .int (-1), .ref (n 6), .ref (n 7), .ref (n 8), .ref (n 9), .ref (n 10), .ref (n 11), .ref (n 12), .int 0, .int 0, .int 0, .int 0, .ref (n 13), .ref (n 14), .ref (n 15), .int 0, .int 0, .int 0, .ref (n 16), .ref (n 17), .int 0, .ref (n 18), .long 0, .long 0, .ref (n 19), .int 0, .long 0, .long 0, .long 0, .ref (n 20), .ref (n 21), .ref (n 22), .ref (n 23)])), ((n 1), .inl (k 0, 99, .inl (fun _ => 0))), ((n 2), .inl (k 0, 297, .inl f_8)), ((n 3), .inl (k 3, 3, .inl (fun _ => 0)))]) S hK hP hD hS 2 rfl (vp_in_nI (by omega) (by decide)) (fun _ => rfl) dX11_image_39 (fun f_8 H locs ef_8 hP hD hS => ?_)
          refine lv_iinc (v := (nI (j_3 + 1))) (lv' := [(2, .int (nI (j_3 + 1))), (0, .ref (n 0)), (1, .int (nI j))]) hx hb dX11_image_40 hl (k := 0) rfl (ni_inc _) (by decide) rfl (fun ls hl => ?_)
          refine lv_goto (tgt := 17) hx hb dX11_image_43 (by decide) ?_
          exact ihj_3 (j_3 + 1) f_8 _ _ _ (by omega) (by omega) hP hD hS (lv_sub hl [0, 1, 2] rfl)
    exact lp_5 (99 + 1) 0 (fun _ => 0) _ _ _ (by omega) (by omega) hP hD hS (lv_sub hl [0, 1, 2] rfl)
  · skip
    have c_2 : ¬ (0 ≤ p0.toInt64 ∧ p0.toInt64 ≤ 2) := bo_0.mp c_2
    refine lv_bipush (v := (-2)) hx hb dX11_image_12 (by decide) ?_
    exact x_reti S hr hlk hQ hS () (lfctX11_image_1 p0 c_2) (x_B P_nil D_nil) dX11_image_14

theorem lfctX11_back_0 (p0 : Int32) (c_2 : 0 ≤ p0.toInt64 ∧ p0.toInt64 ≤ 2) : (-6) = (backAns p0) := (by
  simp only [backAns]
  repeat' split
  all_goals first | rfl | assumption | (exfalso; simp only [fa_lt, fa_le, fa_eq, fa_lt64, fa_le64, fa_eq64, Int32.toInt_toInt64, tz_0, tz_1, tz_2, tz_3, tz_4, tz_5, tz_6, tz_7, tz_8, tz_9, tz_10, tz_60, tz_m1, tl_0, tl_1, tl_2, tl_3, tl_4, tl_5, tl_6, tl_7, tl_8, tl_9, tl_10, tl_60, tl_m1] at * <;> omega))
theorem lfctX11_back_1 (p0 : Int32) (c_2 : ¬ (0 ≤ p0.toInt64 ∧ p0.toInt64 ≤ 2)) : (-2) = (backAns p0) := (by
  simp only [backAns]
  repeat' split
  all_goals first | rfl | assumption | (exfalso; simp only [fa_lt, fa_le, fa_eq, fa_lt64, fa_le64, fa_eq64, Int32.toInt_toInt64, tz_0, tz_1, tz_2, tz_3, tz_4, tz_5, tz_6, tz_7, tz_8, tz_9, tz_10, tz_60, tz_m1, tl_0, tl_1, tl_2, tl_3, tl_4, tl_5, tl_6, tl_7, tl_8, tl_9, tl_10, tl_60, tl_m1] at * <;> omega))
set_option maxHeartbeats 4000000 in
set_option maxRecDepth 100000 in
theorem ctX11_back (l : Launch) (D : va_G) (k : Nat → ClassId) (n : Nat → Nat) (p0 : Int32)  : RO l yX11_back cX11_back 3 (some .int) 1 D k [.ref (n 0), .int p0] [((n 0), .inr (11, [.int 0, .ref (n 1), .ref (n 2), .ref (n 3), .ref (n 4), .int 0, .ref (n 5), .int 0, .int 0, .int 0, .int 0, .int 0, .int 0, .int (-1), .ref (n 6), .ref (n 7), .ref (n 8), .ref (n 9), .ref (n 10), .ref (n 11), .ref (n 12), .int 0, .int 0, .int 0, .int 0, .ref (n 13), .ref (n 14), .ref (n 15), .int 0, .int 0, .int 0, .ref (n 16), .ref (n 17), .int 0, .ref (n 18), .long 0, .long 0, .ref (n 19), .int 0, .long 0, .long 0, .long 0, .ref (n 20), .ref (n 21), .ref (n 22), .ref (n 23)])), ((n 1), .inl (k 0, 99, .inl (fun _ => 0))), ((n 2), .inl (k 0, 297, .inl (fun _ => 0))), ((n 3), .inl (k 3, 3, .inl (fun _ => 0)))] (Qi (fun r : Int32 => r = (backAns p0))) := by
  refine RO.of (by decide) (Nat.le_of_ble_eq_true rfl) ?_
  intro p e s m below meth c ls A args Q S hr hlk hQ hK hP hDW hA hS hl
  have hx := S.1
  have hb := S.2.1
  have hl : lv_has ls 3 [(0, .ref (n 0)), (1, .int p0)] := hl
  refine lv_iload_n hx hb dX11_back_0 rfl (lv_at hl 1 rfl) ?_
  refine lv_i2l (v := p0.toInt64) hx hb dX11_back_1 rfl ?_
  refine lv_lconst (v := 0) hx hb dX11_back_2 (by decide) ?_
  refine lv_ldc2 hx hb S.2.2.2.1 (S.2.2.2.2 _ lkX11_89) dX11_back_3 ?_
  refine x_roSi (As := [.long (p0.toInt64), .long 0, .long 2]) S hK hP hS hA hl mwX11_in lkX11_91 (ctX11_in l D k (p0.toInt64) 0 2 ) [] rfl D_nil rfl rfl ⟨Nat.le_of_ble_eq_true rfl, Nat.le_of_ble_eq_true rfl, Nat.le_of_ble_eq_true rfl⟩ dX11_back_6 ⟨Nat.le_of_ble_eq_true rfl, Nat.le_of_ble_eq_true rfl⟩ (fun r_1 H locs hr_1 hP hS => ?_)
  subst hr_1
  refine lv_if_ne (tgt := 15) hx hb dX11_back_9 (by decide) (fun c_2 => ?_) (fun c_2 => ?_)
  · skip
    have c_2 : 0 ≤ p0.toInt64 ∧ p0.toInt64 ≤ 2 := bo_1.mp c_2
    obtain ⟨j, hj, ej⟩ : ∃ j : Nat, j < 3 ∧ p0 = nI j := nat3l c_2
    have hl : lv_has ls 3 [(0, .ref (n 0)), (1, .int (nI j))] := by rw [ej] at hl; exact hl
    refine lv_aload_n hx hb dX11_back_15 rfl (lv_at hl 0 rfl) ?_
    refine x_get S hK hP 0 rfl cfX11 3 lkX11_16 (by decide) rfl dX11_back_16 ?_
    refine lv_iload_n hx hb dX11_back_19 rfl (lv_at hl 1 rfl) ?_
    refine x_zald S hK hP 3 rfl (vp_in_nI (by omega) (by decide)) dX11_back_20 ?_
    refine x_is 0 rfl ?_
    refine lv_if_ne (tgt := 27) hx hb dX11_back_21 (by decide) (fun c_3 => absurd (by decide) c_3) (fun c_3 => ?_)
    refine lv_bipush (v := (-6)) hx hb dX11_back_24 (by decide) ?_
    exact x_reti S hr hlk hQ hS () (lfctX11_back_0 p0 c_2) x_T dX11_back_26
  · skip
    have c_2 : ¬ (0 ≤ p0.toInt64 ∧ p0.toInt64 ≤ 2) := bo_0.mp c_2
    refine lv_bipush (v := (-2)) hx hb dX11_back_12 (by decide) ?_
    exact x_reti S hr hlk hQ hS () (lfctX11_back_1 p0 c_2) x_T dX11_back_14

set_option maxHeartbeats 4000000 in
set_option maxRecDepth 100000 in
theorem ctX11_good (l : Launch) (D : va_G) (k : Nat → ClassId) (n : Nat → Nat)  : RO l yX11_good cX11_good 1 (some .boolean) 0 D k [.ref (n 0)] [((n 0), .inr (11, [.int 0, .ref (n 1), .ref (n 2), .ref (n 3), .ref (n 4), .int 0, .ref (n 5), .int 0, .int 0, .int 0, .int 0, .int 0, .int 0, .int (-1), .ref (n 6), .ref (n 7), .ref (n 8), .ref (n 9), .ref (n 10), .ref (n 11), .ref (n 12), .int 0, .int 0, .int 0, .int 0, .ref (n 13), .ref (n 14), .ref (n 15), .int 0, .int 0, .int 0, .ref (n 16), .ref (n 17), .int 0, .ref (n 18), .long 0, .long 0, .ref (n 19), .int 0, .long 0, .long 0, .long 0, .ref (n 20), .ref (n 21), .ref (n 22), .ref (n 23)])), ((n 1), .inl (k 0, 99, .inl (fun _ => 0)))] (Qi (fun r : Int32 => r = 1)) := by
  refine RO.of (by decide) (Nat.le_of_ble_eq_true rfl) ?_
  intro p e s m below meth c ls A args Q S hr hlk hQ hK hP hDW hA hS hl
  have hx := S.1
  have hb := S.2.1
  have hl : lv_has ls 1 [(0, .ref (n 0))] := hl
  refine lv_aload_n hx hb dX11_good_0 rfl (lv_at hl 0 rfl) ?_
  refine x_get S hK hP 0 rfl cfX11 12 lkX11_143 (by decide) rfl dX11_good_1 ?_
  refine lv_if_ne (tgt := 11) hx hb dX11_good_4 (by decide) (fun c_1 => absurd (by decide) c_1) (fun c_1 => ?_)
  refine lv_iconst (v := 1) hx hb dX11_good_7 (by decide) ?_
  refine lv_goto (tgt := 12) hx hb dX11_good_8 (by decide) ?_
  exact x_retz S hr hlk hQ hS rfl () rfl x_T dX11_good_12

set_option maxHeartbeats 4000000 in
set_option maxRecDepth 100000 in
theorem ctX11_see (l : Launch) (D : va_G) (k : Nat → ClassId) (n : Nat → Nat)  : RO l yX11_see cX11_see 2 (some .int) 0 D k [.ref (n 0), .int 0] [((n 0), .inr (11, [.int 0, .ref (n 1), .ref (n 2), .ref (n 3), .ref (n 4), .int 0, .ref (n 5), .int 0, .int 0, .int 0, .int 0, .int 0, .int 0, .int (-1), .ref (n 6), .ref (n 7), .ref (n 8), .ref (n 9), .ref (n 10), .ref (n 11), .ref (n 12), .int 0, .int 0, .int 0, .int 0, .ref (n 13), .ref (n 14), .ref (n 15), .int 0, .int 0, .int 0, .ref (n 16), .ref (n 17), .int 0, .ref (n 18), .long 0, .long 0, .ref (n 19), .int 0, .long 0, .long 0, .long 0, .ref (n 20), .ref (n 21), .ref (n 22), .ref (n 23)])), ((n 1), .inl (k 0, 99, .inl (fun _ => 0)))] (Qi (fun r : Int32 => r = (-1))) := by
  refine RO.of (by decide) (Nat.le_of_ble_eq_true rfl) ?_
  intro p e s m below meth c ls A args Q S hr hlk hQ hK hP hDW hA hS hl
  have hx := S.1
  have hb := S.2.1
  have hl : lv_has ls 2 [(0, .ref (n 0)), (1, .int 0)] := hl
  refine lv_iload_n hx hb dX11_see_0 rfl (lv_at hl 1 rfl) ?_
  refine lv_aload_n hx hb dX11_see_1 rfl (lv_at hl 0 rfl) ?_
  refine x_get S hK hP 0 rfl cfX11 7 lkX11_109 (by decide) rfl dX11_see_2 ?_
  refine lv_icmp_ge (tgt := 21) hx hb dX11_see_5 (by decide) (fun c_1 => ?_) (fun c_1 => absurd (by decide) c_1)
  refine lv_iconst (v := (-1)) hx hb dX11_see_21 (by decide) ?_
  exact x_reti S hr hlk hQ hS () rfl x_T dX11_see_22

set_option maxHeartbeats 4000000 in
set_option maxRecDepth 100000 in
theorem ctX11_advance (l : Launch) (D : va_G) (k : Nat → ClassId) (n : Nat → Nat)  : MU l yX11_advance cX11_advance 2 none 1 D k [.ref (n 0)] [((n 0), .inr (11, [.int 0, .ref (n 1), .ref (n 2), .ref (n 3), .ref (n 4), .int 0, .ref (n 5), .int 0, .int 0, .int 0, .int 0, .int 0, .int 0, .int (-1), .ref (n 6), .ref (n 7), .ref (n 8), .ref (n 9), .ref (n 10), .ref (n 11), .ref (n 12), .int 0, .int 0, .int 0, .int 0, .ref (n 13), .ref (n 14), .ref (n 15), .int 0, .int 0, .int 0, .ref (n 16), .ref (n 17), .int 0, .ref (n 18), .long 0, .long 0, .ref (n 19), .int 0, .long 0, .long 0, .long 0, .ref (n 20), .ref (n 21), .ref (n 22), .ref (n 23)])), ((n 1), .inl (k 0, 99, .inl (fun _ => 0)))] 0 0 (Uv D (fun _ : Unit => True) (fun u : Unit => [((n 0), .inr (11, [.int 0, .ref (n 1), .ref (n 2), .ref (n 3), .ref (n 4), .int 0, .ref (n 5), .int 0, .int 0, .int 0, .int 0, .int 0, .int 0, .int (-1), .ref (n 6), .ref (n 7), .ref (n 8), .ref (n 9), .ref (n 10), .ref (n 11), .ref (n 12), .int 0, .int 0, .int 0, .int 0, .ref (n 13), .ref (n 14), .ref (n 15), .int 0, .int 0, .int 0, .ref (n 16), .ref (n 17), .int 0, .ref (n 18), .long 0, .long 0, .ref (n 19), .int 0, .long 0, .long 0, .long 0, .ref (n 20), .ref (n 21), .ref (n 22), .ref (n 23)])), ((n 1), .inl (k 0, 99, .inl (fun _ => 0)))])) := by
  refine MU.of (by decide) (Nat.le_of_ble_eq_true rfl) ?_
  intro p e s m below meth c ls A args Q S hr hlk hnm hQ hK hP hD hA hS hl
  have hx := S.1
  have hb := S.2.1
  have hl : lv_has ls 2 [(0, .ref (n 0))] := hl
  refine lv_aload_n hx hb dX11_advance_0 rfl (lv_at hl 0 rfl) ?_
  refine lv_aload_n hx hb dX11_advance_1 rfl (lv_at hl 0 rfl) ?_
  refine x_get S hK hP 0 rfl cfX11 8 lkX11_112 (by decide) rfl dX11_advance_2 ?_
  refine x_roVi (As := [.int 0]) S hK hP hS hA hl mwX11_see lkX11_115 (ctX11_see l D k n ) [0, 1] rfl ((hD.sub [0, 1] (by decide) rfl).weaken (fun _ _ _ _ => trivial)) rfl rfl rfl rfl rfl ⟨Nat.le_of_ble_eq_true rfl, Nat.le_of_ble_eq_true rfl, Nat.le_of_ble_eq_true rfl⟩ dX11_advance_5 ⟨Nat.le_of_ble_eq_true rfl, Nat.le_of_ble_eq_true rfl⟩ (fun r_1 H locs hr_1 hP hS => ?_)
  subst hr_1
  refine lv_bipush (v := 32) hx hb dX11_advance_8 (by decide) ?_
  refine lv_icmp_eq (tgt := 26) hx hb dX11_advance_10 (by decide) (fun c_2 => absurd c_2 (by decide)) (fun c_2 => ?_)
  refine lv_aload_n hx hb dX11_advance_13 rfl (lv_at hl 0 rfl) ?_
  refine lv_aload_n hx hb dX11_advance_14 rfl (lv_at hl 0 rfl) ?_
  refine x_get S hK hP 0 rfl cfX11 8 lkX11_112 (by decide) rfl dX11_advance_15 ?_
  refine x_roVi (As := [.int 0]) S hK hP hS hA hl mwX11_see lkX11_115 (ctX11_see l D k n ) [0, 1] rfl ((hD.sub [0, 1] (by decide) rfl).weaken (fun _ _ _ _ => trivial)) rfl rfl rfl rfl rfl ⟨Nat.le_of_ble_eq_true rfl, Nat.le_of_ble_eq_true rfl, Nat.le_of_ble_eq_true rfl⟩ dX11_advance_18 ⟨Nat.le_of_ble_eq_true rfl, Nat.le_of_ble_eq_true rfl⟩ (fun r_3 H locs hr_3 hP hS => ?_)
  subst hr_3
  refine lv_bipush (v := 10) hx hb dX11_advance_21 (by decide) ?_
  refine lv_icmp_ne (tgt := 39) hx hb dX11_advance_23 (by decide) (fun c_4 => ?_) (fun c_4 => absurd c_4 (by decide))
  refine lv_aload_n hx hb dX11_advance_39 rfl (lv_at hl 0 rfl) ?_
  refine lv_aload_n hx hb dX11_advance_40 rfl (lv_at hl 0 rfl) ?_
  refine x_get S hK hP 0 rfl cfX11 8 lkX11_112 (by decide) rfl dX11_advance_41 ?_
  refine x_put (ws' := [((n 0), .inr (11, [.int 0, .ref (n 1), .ref (n 2), .ref (n 3), .ref (n 4), .int 0, .ref (n 5), .int 0, .int 0, .int 0, .int 0, .int 0, .int 0, .int (-1), .ref (n 6), .ref (n 7), .ref (n 8), .ref (n 9), .ref (n 10), .ref (n 11), .ref (n 12), .int 0, .int 0, .int 0, .int 0, .ref (n 13), .ref (n 14), .ref (n 15), .int 0, .int 0, .int 0, .ref (n 16), .ref (n 17), .int 0, .ref (n 18), .long 0, .long 0, .ref (n 19), .int 0, .long 0, .long 0, .long 0, .ref (n 20), .ref (n 21), .ref (n 22), .ref (n 23)])), ((n 1), .inl (k 0, 99, .inl (fun _ => 0)))]) S hK hP hD hS 0 rfl cfX11 9 lkX11_119 (by decide) rfl rfl rfl (Nat.le_of_ble_eq_true rfl) rfl dX11_advance_44 (fun H locs hP hD hS => ?_)
  refine lv_aload_n hx hb dX11_advance_47 rfl (lv_at hl 0 rfl) ?_
  refine lv_aload_n hx hb dX11_advance_48 rfl (lv_at hl 0 rfl) ?_
  refine x_get S hK hP 0 rfl cfX11 8 lkX11_112 (by decide) rfl dX11_advance_49 ?_
  refine x_roVi (As := [.int 0]) S hK hP hS hA hl mwX11_see lkX11_115 (ctX11_see l D k n ) [0, 1] rfl ((hD.sub [0, 1] (by decide) rfl).weaken (fun _ _ _ _ => trivial)) rfl rfl rfl rfl rfl ⟨Nat.le_of_ble_eq_true rfl, Nat.le_of_ble_eq_true rfl, Nat.le_of_ble_eq_true rfl⟩ dX11_advance_52 ⟨Nat.le_of_ble_eq_true rfl, Nat.le_of_ble_eq_true rfl⟩ (fun r_5 H locs hr_5 hP hS => ?_)
  subst hr_5
  refine lv_istore_n (lv' := [(1, .int (-1)), (0, .ref (n 0))]) hx hb dX11_advance_55 rfl hl (by decide) rfl (fun ls hl => ?_)
  refine lv_iload_n hx hb dX11_advance_56 rfl (lv_at hl 0 rfl) ?_
  refine lv_iconst (v := (-1)) hx hb dX11_advance_57 (by decide) ?_
  refine lv_icmp_ne (tgt := 69) hx hb dX11_advance_58 (by decide) (fun c_6 => absurd (by decide) c_6) (fun c_6 => ?_)
  refine lv_aload_n hx hb dX11_advance_61 rfl (lv_at hl 1 rfl) ?_
  refine lv_iconst (v := 0) hx hb dX11_advance_62 (by decide) ?_
  refine x_put (ws' := [((n 0), .inr (11, [.int 0, .ref (n 1), .ref (n 2), .ref (n 3), .ref (n 4), .int 0, .ref (n 5), .int 0, .int 0, .int 0, .int 0, .int 0, .int 0, .int (-1), .ref (n 6), .ref (n 7), .ref (n 8), .ref (n 9), .ref (n 10), .ref (n 11), .ref (n 12), .int 0, .int 0, .int 0, .int 0, .ref (n 13), .ref (n 14), .ref (n 15), .int 0, .int 0, .int 0, .ref (n 16), .ref (n 17), .int 0, .ref (n 18), .long 0, .long 0, .ref (n 19), .int 0, .long 0, .long 0, .long 0, .ref (n 20), .ref (n 21), .ref (n 22), .ref (n 23)])), ((n 1), .inl (k 0, 99, .inl (fun _ => 0)))]) S hK hP hD hS 0 rfl cfX11 10 lkX11_122 (by decide) rfl rfl rfl (Nat.le_of_ble_eq_true rfl) rfl dX11_advance_63 (fun H locs hP hD hS => ?_)
  refine lv_goto (tgt := 239) hx hb dX11_advance_66 (by decide) ?_
  exact x_retv S hr hlk hQ hS () trivial (x_B (hP.sub [0, 1] rfl) (hD.sub [0, 1] (by decide) rfl)) dX11_advance_239

set_option maxHeartbeats 4000000 in
set_option maxRecDepth 100000 in
theorem ctX11_garden (l : Launch) (D : va_G) (k : Nat → ClassId) (n : Nat → Nat)  : MU l yX11_garden cX11_garden 2 (some .int) 2 D k [.ref (n 0)] [((n 0), .inr (11, [.int 0, .ref (n 1), .ref (n 2), .ref (n 3), .ref (n 4), .int 0, .ref (n 5), .int 0, .int 0, .int 0, .int 0, .int 0, .int 0, .int (-1), .ref (n 6), .ref (n 7), .ref (n 8), .ref (n 9), .ref (n 10), .ref (n 11), .ref (n 12), .int 0, .int 0, .int 0, .int 0, .ref (n 13), .ref (n 14), .ref (n 15), .int 0, .int 0, .int 0, .ref (n 16), .ref (n 17), .int 0, .ref (n 18), .long 0, .long 0, .ref (n 19), .int 0, .long 0, .long 0, .long 0, .ref (n 20), .ref (n 21), .ref (n 22), .ref (n 23)])), ((n 1), .inl (k 0, 99, .inl (fun _ => 0))), ((n 6), .inl (k 0, 99, .inl (fun _ => 0)))] 0 0 (Ui D (fun (r : Int32) (u : Unit) => r = 0) (fun _ : Unit => [])) := by
  refine MU.of (by decide) (Nat.le_of_ble_eq_true rfl) ?_
  intro p e s m below meth c ls A args Q S hr hlk hnm hQ hK hP hD hA hS hl
  have hx := S.1
  have hb := S.2.1
  have hl : lv_has ls 2 [(0, .ref (n 0))] := hl
  refine lv_aload_n hx hb dX11_garden_0 rfl (lv_at hl 0 rfl) ?_
  refine lv_aload_n hx hb dX11_garden_1 rfl (lv_at hl 0 rfl) ?_
  refine x_get S hK hP 0 rfl cfX11 5 lkX11_106 (by decide) rfl dX11_garden_2 ?_
  refine x_put (ws' := [((n 0), .inr (11, [.int 0, .ref (n 1), .ref (n 2), .ref (n 3), .ref (n 4), .int 0, .ref (n 5), .int 0, .int 0, .int 0, .int 0, .int 0, .int 0, .int (-1), .ref (n 6), .ref (n 7), .ref (n 8), .ref (n 9), .ref (n 10), .ref (n 11), .ref (n 12), .int 0, .int 0, .int 0, .int 0, .ref (n 13), .ref (n 14), .ref (n 15), .int 0, .int 0, .int 0, .ref (n 16), .ref (n 17), .int 0, .ref (n 18), .long 0, .long 0, .ref (n 19), .int 0, .long 0, .long 0, .long 0, .ref (n 20), .ref (n 21), .ref (n 22), .ref (n 23)])), ((n 1), .inl (k 0, 99, .inl (fun _ => 0))), ((n 6), .inl (k 0, 99, .inl (fun _ => 0)))]) S hK hP hD hS 0 rfl cfX11 7 lkX11_109 (by decide) rfl rfl rfl (Nat.le_of_ble_eq_true rfl) rfl dX11_garden_5 (fun H locs hP hD hS => ?_)
  refine lv_aload_n hx hb dX11_garden_8 rfl (lv_at hl 0 rfl) ?_
  refine lv_iconst (v := 0) hx hb dX11_garden_9 (by decide) ?_
  refine x_put (ws' := [((n 0), .inr (11, [.int 0, .ref (n 1), .ref (n 2), .ref (n 3), .ref (n 4), .int 0, .ref (n 5), .int 0, .int 0, .int 0, .int 0, .int 0, .int 0, .int (-1), .ref (n 6), .ref (n 7), .ref (n 8), .ref (n 9), .ref (n 10), .ref (n 11), .ref (n 12), .int 0, .int 0, .int 0, .int 0, .ref (n 13), .ref (n 14), .ref (n 15), .int 0, .int 0, .int 0, .ref (n 16), .ref (n 17), .int 0, .ref (n 18), .long 0, .long 0, .ref (n 19), .int 0, .long 0, .long 0, .long 0, .ref (n 20), .ref (n 21), .ref (n 22), .ref (n 23)])), ((n 1), .inl (k 0, 99, .inl (fun _ => 0))), ((n 6), .inl (k 0, 99, .inl (fun _ => 0)))]) S hK hP hD hS 0 rfl cfX11 5 lkX11_106 (by decide) rfl rfl rfl (Nat.le_of_ble_eq_true rfl) rfl dX11_garden_10 (fun H locs hP hD hS => ?_)
  refine lv_aload_n hx hb dX11_garden_13 rfl (lv_at hl 0 rfl) ?_
  refine lv_iconst (v := 0) hx hb dX11_garden_14 (by decide) ?_
  refine x_put (ws' := [((n 0), .inr (11, [.int 0, .ref (n 1), .ref (n 2), .ref (n 3), .ref (n 4), .int 0, .ref (n 5), .int 0, .int 0, .int 0, .int 0, .int 0, .int 0, .int (-1), .ref (n 6), .ref (n 7), .ref (n 8), .ref (n 9), .ref (n 10), .ref (n 11), .ref (n 12), .int 0, .int 0, .int 0, .int 0, .ref (n 13), .ref (n 14), .ref (n 15), .int 0, .int 0, .int 0, .ref (n 16), .ref (n 17), .int 0, .ref (n 18), .long 0, .long 0, .ref (n 19), .int 0, .long 0, .long 0, .long 0, .ref (n 20), .ref (n 21), .ref (n 22), .ref (n 23)])), ((n 1), .inl (k 0, 99, .inl (fun _ => 0))), ((n 6), .inl (k 0, 99, .inl (fun _ => 0)))]) S hK hP hD hS 0 rfl cfX11 8 lkX11_112 (by decide) rfl rfl rfl (Nat.le_of_ble_eq_true rfl) rfl dX11_garden_15 (fun H locs hP hD hS => ?_)
  refine lv_aload_n hx hb dX11_garden_18 rfl (lv_at hl 0 rfl) ?_
  refine lv_iconst (v := 0) hx hb dX11_garden_19 (by decide) ?_
  refine x_put (ws' := [((n 0), .inr (11, [.int 0, .ref (n 1), .ref (n 2), .ref (n 3), .ref (n 4), .int 0, .ref (n 5), .int 0, .int 0, .int 0, .int 0, .int 0, .int 0, .int (-1), .ref (n 6), .ref (n 7), .ref (n 8), .ref (n 9), .ref (n 10), .ref (n 11), .ref (n 12), .int 0, .int 0, .int 0, .int 0, .ref (n 13), .ref (n 14), .ref (n 15), .int 0, .int 0, .int 0, .ref (n 16), .ref (n 17), .int 0, .ref (n 18), .long 0, .long 0, .ref (n 19), .int 0, .long 0, .long 0, .long 0, .ref (n 20), .ref (n 21), .ref (n 22), .ref (n 23)])), ((n 1), .inl (k 0, 99, .inl (fun _ => 0))), ((n 6), .inl (k 0, 99, .inl (fun _ => 0)))]) S hK hP hD hS 0 rfl cfX11 12 lkX11_143 (by decide) rfl rfl rfl (Nat.le_of_ble_eq_true rfl) rfl dX11_garden_20 (fun H locs hP hD hS => ?_)
  refine lv_aload_n hx hb dX11_garden_23 rfl (lv_at hl 0 rfl) ?_
  refine lv_iconst (v := (-1)) hx hb dX11_garden_24 (by decide) ?_
  refine x_put (ws' := [((n 0), .inr (11, [.int 0, .ref (n 1), .ref (n 2), .ref (n 3), .ref (n 4), .int 0, .ref (n 5), .int 0, .int 0, .int 0, .int 0, .int 0, .int 0, .int (-1), .ref (n 6), .ref (n 7), .ref (n 8), .ref (n 9), .ref (n 10), .ref (n 11), .ref (n 12), .int 0, .int 0, .int 0, .int 0, .ref (n 13), .ref (n 14), .ref (n 15), .int 0, .int 0, .int 0, .ref (n 16), .ref (n 17), .int 0, .ref (n 18), .long 0, .long 0, .ref (n 19), .int 0, .long 0, .long 0, .long 0, .ref (n 20), .ref (n 21), .ref (n 22), .ref (n 23)])), ((n 1), .inl (k 0, 99, .inl (fun _ => 0))), ((n 6), .inl (k 0, 99, .inl (fun _ => 0)))]) S hK hP hD hS 0 rfl cfX11 13 lkX11_27 (by decide) rfl rfl rfl (Nat.le_of_ble_eq_true rfl) rfl dX11_garden_25 (fun H locs hP hD hS => ?_)
  refine lv_iconst (v := 0) hx hb dX11_garden_28 (by decide) ?_
  refine lv_istore_n (lv' := [(1, .int 0), (0, .ref (n 0))]) hx hb dX11_garden_29 rfl hl (by decide) rfl (fun ls hl => ?_)
  have lp_3 : ∀ (nn j_1 : Nat) (g_2 : Nat → Int32) (H : Heap) (locs : List Loc) (ls : Array Slot), j_1 ≤ 99 → 99 - j_1 < nn → (∀ i, g_2 i = 0) → va_P D vwCl [((n 0), .inr (11, [.int 0, .ref (n 1), .ref (n 2), .ref (n 3), .ref (n 4), .int 0, .ref (n 5), .int 0, .int 0, .int 0, .int 0, .int 0, .int 0, .int (-1), .ref (n 6), .ref (n 7), .ref (n 8), .ref (n 9), .ref (n 10), .ref (n 11), .ref (n 12), .int 0, .int 0, .int 0, .int 0, .ref (n 13), .ref (n 14), .ref (n 15), .int 0, .int 0, .int 0, .ref (n 16), .ref (n 17), .int 0, .ref (n 18), .long 0, .long 0, .ref (n 19), .int 0, .long 0, .long 0, .long 0, .ref (n 20), .ref (n 21), .ref (n 22), .ref (n 23)])), ((n 1), .inl (k 0, 99, .inl (fun _ => 0))), ((n 6), .inl (k 0, 99, .inl g_2))] H → va_D A [((n 0), .inr (11, [.int 0, .ref (n 1), .ref (n 2), .ref (n 3), .ref (n 4), .int 0, .ref (n 5), .int 0, .int 0, .int 0, .int 0, .int 0, .int 0, .int (-1), .ref (n 6), .ref (n 7), .ref (n 8), .ref (n 9), .ref (n 10), .ref (n 11), .ref (n 12), .int 0, .int 0, .int 0, .int 0, .ref (n 13), .ref (n 14), .ref (n 15), .int 0, .int 0, .int 0, .ref (n 16), .ref (n 17), .int 0, .ref (n 18), .long 0, .long 0, .ref (n 19), .int 0, .long 0, .long 0, .long 0, .ref (n 20), .ref (n 21), .ref (n 22), .ref (n 23)])), ((n 1), .inl (k 0, 99, .inl (fun _ => 0))), ((n 6), .inl (k 0, 99, .inl g_2))] → va_S A s.heap H locs → lv_has ls 2 [(1, .int (nI j_1)), (0, .ref (n 0))] → W p l e (Rm 2 0 0) s m args below meth c H locs 0 0 Q (F0 m 30 ls []) := by
    intro nn
    induction nn with
    | zero => intro j_1 g_2 H locs ls hjj_1 hnj_1; exact absurd hnj_1 (by omega)
    | succ nn ihj_1 =>
      intro j_1 g_2 H locs ls hjj_1 hnj_1 hF hP hD hS hl
      refine lv_iload_n hx hb dX11_garden_30 rfl (lv_at hl 0 rfl) ?_
      refine lv_bipush (v := 99) hx hb dX11_garden_31 (by decide) ?_
      refine lv_icmp_ge (tgt := 49) hx hb dX11_garden_33 (by decide) (fun c_4 => ?_) (fun c_4 => ?_)
      · skip
        have c_4 : 99 ≤ j_1 := (ni_le (by decide) rfl (by omega) (by omega)).mp c_4
        refine lv_aload_n hx hb dX11_garden_49 rfl (lv_at hl 1 rfl) ?_
        refine x_muVv (wr := [((n 6), .inl (k 0, 99, .inl g_2))]) (As := []) S hK hP hD hS hA hl mwX11_advance lkX11_162 (ctX11_advance l D k n ) [0, 1] [2] rfl rfl (by decide) (by decide) (by decide) rfl rfl rfl rfl rfl ⟨Nat.le_of_ble_eq_true rfl, Nat.le_of_ble_eq_true rfl, Nat.le_of_ble_eq_true rfl⟩ dX11_garden_50 ⟨Nat.le_of_ble_eq_true rfl, Nat.le_of_ble_eq_true rfl⟩ (fun u_6 H locs hr_5 hP hD hS => ?_)
        have hP : va_P D vwCl [((n 6), .inl (k 0, 99, .inl g_2)), ((n 0), .inr (11, [.int 0, .ref (n 1), .ref (n 2), .ref (n 3), .ref (n 4), .int 0, .ref (n 5), .int 0, .int 0, .int 0, .int 0, .int 0, .int 0, .int (-1), .ref (n 6), .ref (n 7), .ref (n 8), .ref (n 9), .ref (n 10), .ref (n 11), .ref (n 12), .int 0, .int 0, .int 0, .int 0, .ref (n 13), .ref (n 14), .ref (n 15), .int 0, .int 0, .int 0, .ref (n 16), .ref (n 17), .int 0, .ref (n 18), .long 0, .long 0, .ref (n 19), .int 0, .long 0, .long 0, .long 0, .ref (n 20), .ref (n 21), .ref (n 22), .ref (n 23)])), ((n 1), .inl (k 0, 99, .inl (fun _ => 0)))] H := hP
        have hD : va_D A [((n 6), .inl (k 0, 99, .inl g_2)), ((n 0), .inr (11, [.int 0, .ref (n 1), .ref (n 2), .ref (n 3), .ref (n 4), .int 0, .ref (n 5), .int 0, .int 0, .int 0, .int 0, .int 0, .int 0, .int (-1), .ref (n 6), .ref (n 7), .ref (n 8), .ref (n 9), .ref (n 10), .ref (n 11), .ref (n 12), .int 0, .int 0, .int 0, .int 0, .ref (n 13), .ref (n 14), .ref (n 15), .int 0, .int 0, .int 0, .ref (n 16), .ref (n 17), .int 0, .ref (n 18), .long 0, .long 0, .ref (n 19), .int 0, .long 0, .long 0, .long 0, .ref (n 20), .ref (n 21), .ref (n 22), .ref (n 23)])), ((n 1), .inl (k 0, 99, .inl (fun _ => 0)))] := hD
        refine lv_aload_n hx hb dX11_garden_53 rfl (lv_at hl 1 rfl) ?_
        refine x_roVi (As := []) S hK hP hS hA hl mwX11_good lkX11_146 (ctX11_good l D k n ) [1, 2] rfl ((hD.sub [1, 2] (by decide) rfl).weaken (fun _ _ _ _ => trivial)) rfl rfl rfl rfl rfl ⟨Nat.le_of_ble_eq_true rfl, Nat.le_of_ble_eq_true rfl, Nat.le_of_ble_eq_true rfl⟩ dX11_garden_54 ⟨Nat.le_of_ble_eq_true rfl, Nat.le_of_ble_eq_true rfl⟩ (fun r_7 H locs hr_7 hP hS => ?_)
        subst hr_7
        refine lv_if_eq (tgt := 74) hx hb dX11_garden_57 (by decide) (fun c_8 => absurd c_8 (by decide)) (fun c_8 => ?_)
        refine lv_aload_n hx hb dX11_garden_60 rfl (lv_at hl 1 rfl) ?_
        refine x_get S hK hP 1 rfl cfX11 10 lkX11_122 (by decide) rfl dX11_garden_61 ?_
        refine lv_if_eq (tgt := 74) hx hb dX11_garden_64 (by decide) (fun c_9 => ?_) (fun c_9 => absurd (by decide) c_9)
        refine lv_aload_n hx hb dX11_garden_74 rfl (lv_at hl 1 rfl) ?_
        refine x_roVi (As := []) S hK hP hS hA hl mwX11_good lkX11_146 (ctX11_good l D k n ) [1, 2] rfl ((hD.sub [1, 2] (by decide) rfl).weaken (fun _ _ _ _ => trivial)) rfl rfl rfl rfl rfl ⟨Nat.le_of_ble_eq_true rfl, Nat.le_of_ble_eq_true rfl, Nat.le_of_ble_eq_true rfl⟩ dX11_garden_75 ⟨Nat.le_of_ble_eq_true rfl, Nat.le_of_ble_eq_true rfl⟩ (fun r_10 H locs hr_10 hP hS => ?_)
        subst hr_10
        refine lv_if_ne (tgt := 84) hx hb dX11_garden_78 (by decide) (fun c_11 => ?_) (fun c_11 => absurd c_11 (by decide))
        refine lv_iconst (v := 0) hx hb dX11_garden_84 (by decide) ?_
        refine lv_istore_n (lv' := [(1, .int 0), (0, .ref (n 0))]) hx hb dX11_garden_85 rfl hl (by decide) rfl (fun ls hl => ?_)
        have lp_14 : ∀ (nn j_12 : Nat) (g_13 : Nat → Int32) (H : Heap) (locs : List Loc) (ls : Array Slot), j_12 ≤ 99 → 99 - j_12 < nn → (∀ i, g_13 i = 0) → va_P D vwCl [((n 6), .inl (k 0, 99, .inl g_2)), ((n 0), .inr (11, [.int 0, .ref (n 1), .ref (n 2), .ref (n 3), .ref (n 4), .int 0, .ref (n 5), .int 0, .int 0, .int 0, .int 0, .int 0, .int 0, .int (-1), .ref (n 6), .ref (n 7), .ref (n 8), .ref (n 9), .ref (n 10), .ref (n 11), .ref (n 12), .int 0, .int 0, .int 0, .int 0, .ref (n 13), .ref (n 14), .ref (n 15), .int 0, .int 0, .int 0, .ref (n 16), .ref (n 17), .int 0, .ref (n 18), .long 0, .long 0, .ref (n 19), .int 0, .long 0, .long 0, .long 0, .ref (n 20), .ref (n 21), .ref (n 22), .ref (n 23)])), ((n 1), .inl (k 0, 99, .inl g_13))] H → va_D A [((n 6), .inl (k 0, 99, .inl g_2)), ((n 0), .inr (11, [.int 0, .ref (n 1), .ref (n 2), .ref (n 3), .ref (n 4), .int 0, .ref (n 5), .int 0, .int 0, .int 0, .int 0, .int 0, .int 0, .int (-1), .ref (n 6), .ref (n 7), .ref (n 8), .ref (n 9), .ref (n 10), .ref (n 11), .ref (n 12), .int 0, .int 0, .int 0, .int 0, .ref (n 13), .ref (n 14), .ref (n 15), .int 0, .int 0, .int 0, .ref (n 16), .ref (n 17), .int 0, .ref (n 18), .long 0, .long 0, .ref (n 19), .int 0, .long 0, .long 0, .long 0, .ref (n 20), .ref (n 21), .ref (n 22), .ref (n 23)])), ((n 1), .inl (k 0, 99, .inl g_13))] → va_S A s.heap H locs → lv_has ls 2 [(1, .int (nI j_12)), (0, .ref (n 0))] → W p l e (Rm 2 0 0) s m args below meth c H locs 0 0 Q (F0 m 86 ls []) := by
          intro nn
          induction nn with
          | zero => intro j_12 g_13 H locs ls hjj_12 hnj_12; exact absurd hnj_12 (by omega)
          | succ nn ihj_12 =>
            intro j_12 g_13 H locs ls hjj_12 hnj_12 hW hP hD hS hl
            refine lv_iload_n hx hb dX11_garden_86 rfl (lv_at hl 0 rfl) ?_
            refine lv_bipush (v := 99) hx hb dX11_garden_87 (by decide) ?_
            refine lv_icmp_ge (tgt := 110) hx hb dX11_garden_89 (by decide) (fun c_15 => ?_) (fun c_15 => ?_)
            · skip
              have c_15 : 99 ≤ j_12 := (ni_le (by decide) rfl (by omega) (by omega)).mp c_15
              refine lv_aload_n hx hb dX11_garden_110 rfl (lv_at hl 1 rfl) ?_
              refine x_get S hK hP 1 rfl cfX11 1 lkX11_9 (by decide) rfl dX11_garden_111 ?_
              refine lv_bipush (v := 8) hx hb dX11_garden_114 (by decide) ?_
              refine x_iald S hK hP 2 rfl (vp_lit (by decide)) dX11_garden_116 ?_
              refine x_is 0 (hW _) ?_
              exact x_reti S hr hlk hQ hS () rfl (x_B P_nil D_nil) dX11_garden_117
            · skip
              have c_15 : ¬ 99 ≤ j_12 := fun q => c_15 ((ni_le (by decide) rfl (by omega) (by omega)).mpr q)
              refine lv_aload_n hx hb dX11_garden_92 rfl (lv_at hl 1 rfl) ?_
              refine x_get S hK hP 1 rfl cfX11 1 lkX11_9 (by decide) rfl dX11_garden_93 ?_
              refine lv_iload_n hx hb dX11_garden_96 rfl (lv_at hl 0 rfl) ?_
              refine lv_aload_n hx hb dX11_garden_97 rfl (lv_at hl 1 rfl) ?_
              refine x_get S hK hP 1 rfl cfX11 14 lkX11_31 (by decide) rfl dX11_garden_98 ?_
              refine lv_iload_n hx hb dX11_garden_101 rfl (lv_at hl 0 rfl) ?_
              refine x_iald S hK hP 0 rfl (vp_in_nI (by omega) (by decide)) dX11_garden_102 ?_
              refine x_is 0 (hF _) ?_
              refine x_iast (ws' := fun f_16 => [((n 6), .inl (k 0, 99, .inl g_2)), ((n 0), .inr (11, [.int 0, .ref (n 1), .ref (n 2), .ref (n 3), .ref (n 4), .int 0, .ref (n 5), .int 0, .int 0, .int 0, .int 0, .int 0, .int 0, .int (-1), .ref (n 6), .ref (n 7), .ref (n 8), .ref (n 9), .ref (n 10), .ref (n 11), .ref (n 12), .int 0, .int 0, .int 0, .int 0, .ref (n 13), .ref (n 14), .ref (n 15), .int 0, .int 0, .int 0, .ref (n 16), .ref (n 17), .int 0, .ref (n 18), .long 0, .long 0, .ref (n 19), .int 0, .long 0, .long 0, .long 0, .ref (n 20), .ref (n 21), .ref (n 22), .ref (n 23)])), ((n 1), .inl (k 0, 99, .inl f_16))]) S hK hP hD hS 2 rfl (vp_in_nI (by omega) (by decide)) (fun _ => rfl) dX11_garden_103 (fun f_16 H locs ef_16 hP hD hS => ?_)
              refine lv_iinc (v := (nI (j_12 + 1))) (lv' := [(1, .int (nI (j_12 + 1))), (0, .ref (n 0))]) hx hb dX11_garden_104 hl (k := 0) rfl (ni_inc _) (by decide) rfl (fun ls hl => ?_)
              refine lv_goto (tgt := 86) hx hb dX11_garden_107 (by decide) ?_
              exact ihj_12 (j_12 + 1) f_16 _ _ _ (by omega) (by omega) (fun i => by rw [ef_16]; exact upd0 hW i) hP hD hS (lv_sub hl [0, 1] rfl)
        exact lp_14 (99 + 1) 0 (fun _ => 0) _ _ _ (by omega) (by omega) (fun _ => rfl) hP hD hS (lv_sub hl [0, 1] rfl)
      · skip
        have c_4 : ¬ 99 ≤ j_1 := fun q => c_4 ((ni_le (by decide) rfl (by omega) (by omega)).mpr q)
        refine lv_aload_n hx hb dX11_garden_36 rfl (lv_at hl 1 rfl) ?_
        refine x_get S hK hP 0 rfl cfX11 14 lkX11_31 (by decide) rfl dX11_garden_37 ?_
        refine lv_iload_n hx hb dX11_garden_40 rfl (lv_at hl 0 rfl) ?_
        refine lv_iconst (v := 0) hx hb dX11_garden_41 (by decide) ?_
        refine x_iast (ws' := fun f_17 => [((n 0), .inr (11, [.int 0, .ref (n 1), .ref (n 2), .ref (n 3), .ref (n 4), .int 0, .ref (n 5), .int 0, .int 0, .int 0, .int 0, .int 0, .int 0, .int (-1), .ref (n 6), .ref (n 7), .ref (n 8), .ref (n 9), .ref (n 10), .ref (n 11), .ref (n 12), .int 0, .int 0, .int 0, .int 0, .ref (n 13), .ref (n 14), .ref (n 15), .int 0, .int 0, .int 0, .ref (n 16), .ref (n 17), .int 0, .ref (n 18), .long 0, .long 0, .ref (n 19), .int 0, .long 0, .long 0, .long 0, .ref (n 20), .ref (n 21), .ref (n 22), .ref (n 23)])), ((n 1), .inl (k 0, 99, .inl (fun _ => 0))), ((n 6), .inl (k 0, 99, .inl f_17))]) S hK hP hD hS 2 rfl (vp_in_nI (by omega) (by decide)) (fun _ => rfl) dX11_garden_42 (fun f_17 H locs ef_17 hP hD hS => ?_)
        refine lv_iinc (v := (nI (j_1 + 1))) (lv' := [(1, .int (nI (j_1 + 1))), (0, .ref (n 0))]) hx hb dX11_garden_43 hl (k := 0) rfl (ni_inc _) (by decide) rfl (fun ls hl => ?_)
        refine lv_goto (tgt := 30) hx hb dX11_garden_46 (by decide) ?_
        exact ihj_1 (j_1 + 1) f_17 _ _ _ (by omega) (by omega) (fun i => by rw [ef_17]; exact upd0 hF i) hP hD hS (lv_sub hl [0, 1] rfl)
  exact lp_3 (99 + 1) 0 (fun _ => 0) _ _ _ (by omega) (by omega) (fun _ => rfl) hP hD hS (lv_sub hl [0, 1] rfl)
