theorem nat4 {x : Int32} (h : 0 ≤ x ∧ x < 4) : ∃ j : Nat, j < 4 ∧ x = nI j := by
  obtain ⟨j, hj, e⟩ := nI_of (Int32.not_lt.mpr h.1)
  refine ⟨j, ?_, e⟩
  rw [e] at h
  exact (ni_lt rfl (by decide) (by omega) (by decide)).mp h.2
theorem nat4l {x : Int32} (h : 0 ≤ x.toInt64 ∧ x.toInt64 ≤ 3) : ∃ j : Nat, j < 4 ∧ x = nI j := by
  refine nat4 ⟨?_, ?_⟩
  · have h1 := h.1
    simp only [fa_le64, fa_le, Int32.toInt_toInt64, tz_0, tl_0] at *
    exact h1
  · have h1 := h.2
    simp only [fa_le64, fa_lt, Int32.toInt_toInt64, tz_4, tl_3] at *
    omega
theorem nat3l {x : Int32} (h : 0 ≤ x.toInt64 ∧ x.toInt64 ≤ 2) : ∃ j : Nat, j < 3 ∧ x = nI j := by
  obtain ⟨j, hj, e⟩ := nat4l ⟨h.1, Int64.le_trans h.2 (by decide)⟩
  refine ⟨j, ?_, e⟩
  have h1 := h.2
  rw [e] at h1
  simp only [fa_le64, Int32.toInt_toInt64, tl_2, nI_toInt (show j < 2 ^ 31 by omega)] at h1
  omega
theorem nat9l {x : Int32} (h : 0 ≤ x.toInt64 ∧ x.toInt64 ≤ 8) : ∃ j : Nat, j < 9 ∧ x = nI j := by
  have h1 := h.1
  have h2 := h.2
  simp only [fa_le64, Int32.toInt_toInt64, tl_0, tl_8] at h1 h2
  obtain ⟨j, hj, e⟩ := nI_of (x := x) (by rw [fa_lt, tz_0]; omega)
  refine ⟨j, ?_, e⟩
  rw [e, nI_toInt hj] at h2
  omega
theorem three {x : Int32} (h1 : ¬ x < 0) (h2 : x < 3) : x = 0 ∨ x = 1 ∨ x = 2 := by
  simp only [fa_lt, fa_eq, tz_0, tz_1, tz_2, tz_3] at *
  omega
theorem dX10_fault_0 : decode cX10_fault 0 = .ok (.iload_n 1, 1) := by decide +kernel
theorem dX10_fault_1 : decode cX10_fault 1 = .ok (.ifCond .ne 11, 3) := by decide +kernel
theorem dX10_fault_4 : decode cX10_fault 4 = .ok (.aload_n 0, 1) := by decide +kernel
theorem dX10_fault_5 : decode cX10_fault 5 = .ok (.getfield 10, 3) := by decide +kernel
theorem dX10_fault_8 : decode cX10_fault 8 = .ok (.getfield 129, 3) := by decide +kernel
theorem dX10_fault_11 : decode cX10_fault 11 = .ok (.ireturn, 1) := by decide +kernel
theorem dX10_fault_12 : decode cX10_fault 12 = .ok (.iload_n 1, 1) := by decide +kernel
theorem dX10_fault_13 : decode cX10_fault 13 = .ok (.iconst 1, 1) := by decide +kernel
theorem dX10_fault_14 : decode cX10_fault 14 = .ok (.if_icmp .ne 13, 3) := by decide +kernel
theorem dX10_fault_17 : decode cX10_fault 17 = .ok (.aload_n 0, 1) := by decide +kernel
theorem dX10_fault_18 : decode cX10_fault 18 = .ok (.getfield 10, 3) := by decide +kernel
theorem dX10_fault_21 : decode cX10_fault 21 = .ok (.getfield 132, 3) := by decide +kernel
theorem dX10_fault_24 : decode cX10_fault 24 = .ok (.goto 4, 3) := by decide +kernel
theorem dX10_fault_27 : decode cX10_fault 27 = .ok (.iconst (-1), 1) := by decide +kernel
theorem dX10_fault_28 : decode cX10_fault 28 = .ok (.ireturn, 1) := by decide +kernel
theorem dX10_end_0 : decode cX10_end 0 = .ok (.iload_n 1, 1) := by decide +kernel
theorem dX10_end_1 : decode cX10_end 1 = .ok (.ifCond .lt 14, 3) := by decide +kernel
theorem dX10_end_4 : decode cX10_end 4 = .ok (.iload_n 1, 1) := by decide +kernel
theorem dX10_end_5 : decode cX10_end 5 = .ok (.aload_n 0, 1) := by decide +kernel
theorem dX10_end_6 : decode cX10_end 6 = .ok (.getfield 10, 3) := by decide +kernel
theorem dX10_end_9 : decode cX10_end 9 = .ok (.getfield 114, 3) := by decide +kernel
theorem dX10_end_12 : decode cX10_end 12 = .ok (.if_icmp .le 5, 3) := by decide +kernel
theorem dX10_end_15 : decode cX10_end 15 = .ok (.iconst (-1), 1) := by decide +kernel
theorem dX10_end_16 : decode cX10_end 16 = .ok (.ireturn, 1) := by decide +kernel
theorem dX10_end_17 : decode cX10_end 17 = .ok (.aload_n 0, 1) := by decide +kernel
theorem dX10_end_18 : decode cX10_end 18 = .ok (.getfield 10, 3) := by decide +kernel
theorem dX10_end_21 : decode cX10_end 21 = .ok (.iload_n 1, 1) := by decide +kernel
theorem dX10_end_22 : decode cX10_end 22 = .ok (.putfield 114, 3) := by decide +kernel
theorem dX10_end_25 : decode cX10_end 25 = .ok (.iload_n 1, 1) := by decide +kernel
theorem dX10_end_26 : decode cX10_end 26 = .ok (.ireturn, 1) := by decide +kernel
theorem dX4_hasRoom_0 : decode cX4_hasRoom 0 = .ok (.aload_n 0, 1) := by decide +kernel
theorem dX4_hasRoom_1 : decode cX4_hasRoom 1 = .ok (.getfield 19, 3) := by decide +kernel
theorem dX4_hasRoom_4 : decode cX4_hasRoom 4 = .ok (.bipush 20, 2) := by decide +kernel
theorem dX4_hasRoom_6 : decode cX4_hasRoom 6 = .ok (.iadd, 1) := by decide +kernel
theorem dX4_hasRoom_7 : decode cX4_hasRoom 7 = .ok (.sipush 600, 3) := by decide +kernel
theorem dX4_hasRoom_10 : decode cX4_hasRoom 10 = .ok (.if_icmp .gt 7, 3) := by decide +kernel
theorem dX4_hasRoom_13 : decode cX4_hasRoom 13 = .ok (.iconst 1, 1) := by decide +kernel
theorem dX4_hasRoom_14 : decode cX4_hasRoom 14 = .ok (.goto 4, 3) := by decide +kernel
theorem dX4_hasRoom_17 : decode cX4_hasRoom 17 = .ok (.iconst 0, 1) := by decide +kernel
theorem dX4_hasRoom_18 : decode cX4_hasRoom 18 = .ok (.ireturn, 1) := by decide +kernel
theorem dX4_append_0 : decode cX4_append 0 = .ok (.bipush 24, 2) := by decide +kernel
theorem dX4_append_2 : decode cX4_append 2 = .ok (.istore_n 2, 1) := by decide +kernel
theorem dX4_append_3 : decode cX4_append 3 = .ok (.iload_n 2, 1) := by decide +kernel
theorem dX4_append_4 : decode cX4_append 4 = .ok (.ifCond .lt 42, 3) := by decide +kernel
theorem dX4_append_7 : decode cX4_append 7 = .ok (.aload_n 0, 1) := by decide +kernel
theorem dX4_append_8 : decode cX4_append 8 = .ok (.getfield 19, 3) := by decide +kernel
theorem dX4_append_11 : decode cX4_append 11 = .ok (.sipush 600, 3) := by decide +kernel
theorem dX4_append_14 : decode cX4_append 14 = .ok (.if_icmp .ge 32, 3) := by decide +kernel
theorem dX4_append_17 : decode cX4_append 17 = .ok (.aload_n 0, 1) := by decide +kernel
theorem dX4_append_18 : decode cX4_append 18 = .ok (.getfield 9, 3) := by decide +kernel
theorem dX4_append_21 : decode cX4_append 21 = .ok (.aload_n 0, 1) := by decide +kernel
theorem dX4_append_22 : decode cX4_append 22 = .ok (.getfield 19, 3) := by decide +kernel
theorem dX4_append_25 : decode cX4_append 25 = .ok (.iload_n 1, 1) := by decide +kernel
theorem dX4_append_26 : decode cX4_append 26 = .ok (.iload_n 2, 1) := by decide +kernel
theorem dX4_append_27 : decode cX4_append 27 = .ok (.iushr, 1) := by decide +kernel
theorem dX4_append_28 : decode cX4_append 28 = .ok (.i2b, 1) := by decide +kernel
theorem dX4_append_29 : decode cX4_append 29 = .ok (.bastore, 1) := by decide +kernel
theorem dX4_append_30 : decode cX4_append 30 = .ok (.aload_n 0, 1) := by decide +kernel
theorem dX4_append_31 : decode cX4_append 31 = .ok (.dup, 1) := by decide +kernel
theorem dX4_append_32 : decode cX4_append 32 = .ok (.getfield 19, 3) := by decide +kernel
theorem dX4_append_35 : decode cX4_append 35 = .ok (.iconst 1, 1) := by decide +kernel
theorem dX4_append_36 : decode cX4_append 36 = .ok (.iadd, 1) := by decide +kernel
theorem dX4_append_37 : decode cX4_append 37 = .ok (.putfield 19, 3) := by decide +kernel
theorem dX4_append_40 : decode cX4_append 40 = .ok (.iinc 2 (-8), 3) := by decide +kernel
theorem dX4_append_43 : decode cX4_append 43 = .ok (.goto (-40), 3) := by decide +kernel
theorem dX4_append_46 : decode cX4_append 46 = .ok (.return_, 1) := by decide +kernel
theorem dX10_feed_0 : decode cX10_feed 0 = .ok (.aload_n 0, 1) := by decide +kernel
theorem dX10_feed_1 : decode cX10_feed 1 = .ok (.getfield 10, 3) := by decide +kernel
theorem dX10_feed_4 : decode cX10_feed 4 = .ok (.invokevirtual 106, 3) := by decide +kernel
theorem dX10_feed_7 : decode cX10_feed 7 = .ok (.ifCond .ne 5, 3) := by decide +kernel
theorem dX10_feed_10 : decode cX10_feed 10 = .ok (.iconst (-1), 1) := by decide +kernel
theorem dX10_feed_11 : decode cX10_feed 11 = .ok (.ireturn, 1) := by decide +kernel
theorem dX10_feed_12 : decode cX10_feed 12 = .ok (.aload_n 0, 1) := by decide +kernel
theorem dX10_feed_13 : decode cX10_feed 13 = .ok (.getfield 10, 3) := by decide +kernel
theorem dX10_feed_16 : decode cX10_feed 16 = .ok (.iload_n 1, 1) := by decide +kernel
theorem dX10_feed_17 : decode cX10_feed 17 = .ok (.invokevirtual 110, 3) := by decide +kernel
theorem dX10_feed_20 : decode cX10_feed 20 = .ok (.aload_n 0, 1) := by decide +kernel
theorem dX10_feed_21 : decode cX10_feed 21 = .ok (.getfield 10, 3) := by decide +kernel
theorem dX10_feed_24 : decode cX10_feed 24 = .ok (.iload_n 2, 1) := by decide +kernel
theorem dX10_feed_25 : decode cX10_feed 25 = .ok (.invokevirtual 110, 3) := by decide +kernel
theorem dX10_feed_28 : decode cX10_feed 28 = .ok (.aload_n 0, 1) := by decide +kernel
theorem dX10_feed_29 : decode cX10_feed 29 = .ok (.getfield 10, 3) := by decide +kernel
theorem dX10_feed_32 : decode cX10_feed 32 = .ok (.iload_n 3, 1) := by decide +kernel
theorem dX10_feed_33 : decode cX10_feed 33 = .ok (.invokevirtual 110, 3) := by decide +kernel
theorem dX10_feed_36 : decode cX10_feed 36 = .ok (.aload_n 0, 1) := by decide +kernel
theorem dX10_feed_37 : decode cX10_feed 37 = .ok (.getfield 10, 3) := by decide +kernel
theorem dX10_feed_40 : decode cX10_feed 40 = .ok (.iload 4, 2) := by decide +kernel
theorem dX10_feed_42 : decode cX10_feed 42 = .ok (.invokevirtual 110, 3) := by decide +kernel
theorem dX10_feed_45 : decode cX10_feed 45 = .ok (.aload_n 0, 1) := by decide +kernel
theorem dX10_feed_46 : decode cX10_feed 46 = .ok (.getfield 10, 3) := by decide +kernel
theorem dX10_feed_49 : decode cX10_feed 49 = .ok (.iload 5, 2) := by decide +kernel
theorem dX10_feed_51 : decode cX10_feed 51 = .ok (.invokevirtual 110, 3) := by decide +kernel
theorem dX10_feed_54 : decode cX10_feed 54 = .ok (.aload_n 0, 1) := by decide +kernel
theorem dX10_feed_55 : decode cX10_feed 55 = .ok (.getfield 10, 3) := by decide +kernel
theorem dX10_feed_58 : decode cX10_feed 58 = .ok (.getfield 114, 3) := by decide +kernel
theorem dX10_feed_61 : decode cX10_feed 61 = .ok (.ireturn, 1) := by decide +kernel
theorem dX6_isEmpty_0 : decode cX6_isEmpty 0 = .ok (.aload_n 0, 1) := by decide +kernel
theorem dX6_isEmpty_1 : decode cX6_isEmpty 1 = .ok (.getfield 20, 3) := by decide +kernel
theorem dX6_isEmpty_4 : decode cX6_isEmpty 4 = .ok (.iload_n 1, 1) := by decide +kernel
theorem dX6_isEmpty_5 : decode cX6_isEmpty 5 = .ok (.iaload, 1) := by decide +kernel
theorem dX6_isEmpty_6 : decode cX6_isEmpty 6 = .ok (.iconst (-1), 1) := by decide +kernel
theorem dX6_isEmpty_7 : decode cX6_isEmpty 7 = .ok (.if_icmp .ne 7, 3) := by decide +kernel
theorem dX6_isEmpty_10 : decode cX6_isEmpty 10 = .ok (.iconst 1, 1) := by decide +kernel
theorem dX6_isEmpty_11 : decode cX6_isEmpty 11 = .ok (.goto 4, 3) := by decide +kernel
theorem dX6_isEmpty_14 : decode cX6_isEmpty 14 = .ok (.iconst 0, 1) := by decide +kernel
theorem dX6_isEmpty_15 : decode cX6_isEmpty 15 = .ok (.ireturn, 1) := by decide +kernel
theorem dX6_filled_0 : decode cX6_filled 0 = .ok (.iconst 0, 1) := by decide +kernel
theorem dX6_filled_1 : decode cX6_filled 1 = .ok (.istore_n 1, 1) := by decide +kernel
theorem dX6_filled_2 : decode cX6_filled 2 = .ok (.iconst 0, 1) := by decide +kernel
theorem dX6_filled_3 : decode cX6_filled 3 = .ok (.istore_n 2, 1) := by decide +kernel
theorem dX6_filled_4 : decode cX6_filled 4 = .ok (.iload_n 2, 1) := by decide +kernel
theorem dX6_filled_5 : decode cX6_filled 5 = .ok (.iconst 4, 1) := by decide +kernel
theorem dX6_filled_6 : decode cX6_filled 6 = .ok (.if_icmp .ge 25, 3) := by decide +kernel
theorem dX6_filled_9 : decode cX6_filled 9 = .ok (.iload_n 1, 1) := by decide +kernel
theorem dX6_filled_10 : decode cX6_filled 10 = .ok (.aload_n 0, 1) := by decide +kernel
theorem dX6_filled_11 : decode cX6_filled 11 = .ok (.iload_n 2, 1) := by decide +kernel
theorem dX6_filled_12 : decode cX6_filled 12 = .ok (.invokevirtual 23, 3) := by decide +kernel
theorem dX6_filled_15 : decode cX6_filled 15 = .ok (.ifCond .eq 7, 3) := by decide +kernel
theorem dX6_filled_18 : decode cX6_filled 18 = .ok (.iconst 0, 1) := by decide +kernel
theorem dX6_filled_19 : decode cX6_filled 19 = .ok (.goto 4, 3) := by decide +kernel
theorem dX6_filled_22 : decode cX6_filled 22 = .ok (.iconst 1, 1) := by decide +kernel
theorem dX6_filled_23 : decode cX6_filled 23 = .ok (.iadd, 1) := by decide +kernel
theorem dX6_filled_24 : decode cX6_filled 24 = .ok (.istore_n 1, 1) := by decide +kernel
theorem dX6_filled_25 : decode cX6_filled 25 = .ok (.iinc 2 1, 3) := by decide +kernel
theorem dX6_filled_28 : decode cX6_filled 28 = .ok (.goto (-24), 3) := by decide +kernel
theorem dX6_filled_31 : decode cX6_filled 31 = .ok (.iload_n 1, 1) := by decide +kernel
theorem dX6_filled_32 : decode cX6_filled 32 = .ok (.ireturn, 1) := by decide +kernel
theorem dX10_count_0 : decode cX10_count 0 = .ok (.iload_n 1, 1) := by decide +kernel
theorem dX10_count_1 : decode cX10_count 1 = .ok (.tableswitch 147 0 10 #[59, 67, 75, 83, 91, 99, 107, 115, 123, 131, 139], 59) := by decide +kernel
theorem dX10_count_60 : decode cX10_count 60 = .ok (.aload_n 0, 1) := by decide +kernel
theorem dX10_count_61 : decode cX10_count 61 = .ok (.getfield 23, 3) := by decide +kernel
theorem dX10_count_64 : decode cX10_count 64 = .ok (.getfield 401, 3) := by decide +kernel
theorem dX10_count_67 : decode cX10_count 67 = .ok (.ireturn, 1) := by decide +kernel
theorem dX10_count_68 : decode cX10_count 68 = .ok (.aload_n 0, 1) := by decide +kernel
theorem dX10_count_69 : decode cX10_count 69 = .ok (.getfield 23, 3) := by decide +kernel
theorem dX10_count_72 : decode cX10_count 72 = .ok (.getfield 417, 3) := by decide +kernel
theorem dX10_count_75 : decode cX10_count 75 = .ok (.ireturn, 1) := by decide +kernel
theorem dX10_count_76 : decode cX10_count 76 = .ok (.aload_n 0, 1) := by decide +kernel
theorem dX10_count_77 : decode cX10_count 77 = .ok (.getfield 23, 3) := by decide +kernel
theorem dX10_count_80 : decode cX10_count 80 = .ok (.getfield 420, 3) := by decide +kernel
theorem dX10_count_83 : decode cX10_count 83 = .ok (.ireturn, 1) := by decide +kernel
theorem dX10_count_84 : decode cX10_count 84 = .ok (.aload_n 0, 1) := by decide +kernel
theorem dX10_count_85 : decode cX10_count 85 = .ok (.getfield 23, 3) := by decide +kernel
theorem dX10_count_88 : decode cX10_count 88 = .ok (.getfield 423, 3) := by decide +kernel
theorem dX10_count_91 : decode cX10_count 91 = .ok (.ireturn, 1) := by decide +kernel
theorem dX10_count_92 : decode cX10_count 92 = .ok (.aload_n 0, 1) := by decide +kernel
theorem dX10_count_93 : decode cX10_count 93 = .ok (.getfield 23, 3) := by decide +kernel
theorem dX10_count_96 : decode cX10_count 96 = .ok (.getfield 296, 3) := by decide +kernel
theorem dX10_count_99 : decode cX10_count 99 = .ok (.ireturn, 1) := by decide +kernel
theorem dX10_count_100 : decode cX10_count 100 = .ok (.aload_n 0, 1) := by decide +kernel
theorem dX10_count_101 : decode cX10_count 101 = .ok (.getfield 23, 3) := by decide +kernel
theorem dX10_count_104 : decode cX10_count 104 = .ok (.getfield 426, 3) := by decide +kernel
theorem dX10_count_107 : decode cX10_count 107 = .ok (.ireturn, 1) := by decide +kernel
theorem dX10_count_108 : decode cX10_count 108 = .ok (.aload_n 0, 1) := by decide +kernel
theorem dX10_count_109 : decode cX10_count 109 = .ok (.getfield 23, 3) := by decide +kernel
theorem dX10_count_112 : decode cX10_count 112 = .ok (.getfield 429, 3) := by decide +kernel
theorem dX10_count_115 : decode cX10_count 115 = .ok (.ireturn, 1) := by decide +kernel
theorem dX10_count_116 : decode cX10_count 116 = .ok (.aload_n 0, 1) := by decide +kernel
theorem dX10_count_117 : decode cX10_count 117 = .ok (.getfield 23, 3) := by decide +kernel
theorem dX10_count_120 : decode cX10_count 120 = .ok (.getfield 394, 3) := by decide +kernel
theorem dX10_count_123 : decode cX10_count 123 = .ok (.ireturn, 1) := by decide +kernel
theorem dX10_count_124 : decode cX10_count 124 = .ok (.aload_n 0, 1) := by decide +kernel
theorem dX10_count_125 : decode cX10_count 125 = .ok (.getfield 23, 3) := by decide +kernel
theorem dX10_count_128 : decode cX10_count 128 = .ok (.getfield 126, 3) := by decide +kernel
theorem dX10_count_131 : decode cX10_count 131 = .ok (.ireturn, 1) := by decide +kernel
theorem dX10_count_132 : decode cX10_count 132 = .ok (.aload_n 0, 1) := by decide +kernel
theorem dX10_count_133 : decode cX10_count 133 = .ok (.getfield 10, 3) := by decide +kernel
theorem dX10_count_136 : decode cX10_count 136 = .ok (.getfield 114, 3) := by decide +kernel
theorem dX10_count_139 : decode cX10_count 139 = .ok (.ireturn, 1) := by decide +kernel
theorem dX10_count_140 : decode cX10_count 140 = .ok (.aload_n 0, 1) := by decide +kernel
theorem dX10_count_141 : decode cX10_count 141 = .ok (.getfield 73, 3) := by decide +kernel
theorem dX10_count_144 : decode cX10_count 144 = .ok (.invokevirtual 432, 3) := by decide +kernel
theorem dX10_count_147 : decode cX10_count 147 = .ok (.ireturn, 1) := by decide +kernel
theorem dX10_count_148 : decode cX10_count 148 = .ok (.iconst (-1), 1) := by decide +kernel
theorem dX10_count_149 : decode cX10_count 149 = .ok (.ireturn, 1) := by decide +kernel
theorem dX10_write_0 : decode cX10_write 0 = .ok (.iload_n 1, 1) := by decide +kernel
theorem dX10_write_1 : decode cX10_write 1 = .ok (.invokestatic 435, 3) := by decide +kernel
theorem dX10_write_4 : decode cX10_write 4 = .ok (.ifCond .ne 6, 3) := by decide +kernel
theorem dX10_write_7 : decode cX10_write 7 = .ok (.bipush (-2), 2) := by decide +kernel
theorem dX10_write_9 : decode cX10_write 9 = .ok (.ireturn, 1) := by decide +kernel
theorem dX10_write_10 : decode cX10_write 10 = .ok (.aload_n 0, 1) := by decide +kernel
theorem dX10_write_11 : decode cX10_write 11 = .ok (.getfield 73, 3) := by decide +kernel
theorem dX10_write_14 : decode cX10_write 14 = .ok (.iload_n 1, 1) := by decide +kernel
theorem dX10_write_15 : decode cX10_write 15 = .ok (.invokevirtual 441, 3) := by decide +kernel
theorem dX10_write_18 : decode cX10_write 18 = .ok (.ifCond .eq 6, 3) := by decide +kernel
theorem dX10_write_21 : decode cX10_write 21 = .ok (.bipush (-6), 2) := by decide +kernel
theorem dX10_write_23 : decode cX10_write 23 = .ok (.ireturn, 1) := by decide +kernel
theorem dX10_write_24 : decode cX10_write 24 = .ok (.iload_n 2, 1) := by decide +kernel
theorem dX10_write_25 : decode cX10_write 25 = .ok (.ifCond .lt 16, 3) := by decide +kernel
theorem dX10_write_28 : decode cX10_write 28 = .ok (.iload_n 2, 1) := by decide +kernel
theorem dX10_write_29 : decode cX10_write 29 = .ok (.aload_n 0, 1) := by decide +kernel
theorem dX10_write_30 : decode cX10_write 30 = .ok (.getfield 73, 3) := by decide +kernel
theorem dX10_write_33 : decode cX10_write 33 = .ok (.getfield 444, 3) := by decide +kernel
theorem dX10_write_36 : decode cX10_write 36 = .ok (.iload_n 1, 1) := by decide +kernel
theorem dX10_write_37 : decode cX10_write 37 = .ok (.iaload, 1) := by decide +kernel
theorem dX10_write_38 : decode cX10_write 38 = .ok (.if_icmp .lt 6, 3) := by decide +kernel
theorem dX10_write_41 : decode cX10_write 41 = .ok (.bipush (-7), 2) := by decide +kernel
theorem dX10_write_43 : decode cX10_write 43 = .ok (.ireturn, 1) := by decide +kernel
theorem dX10_write_44 : decode cX10_write 44 = .ok (.aload_n 0, 1) := by decide +kernel
theorem dX10_write_45 : decode cX10_write 45 = .ok (.getfield 73, 3) := by decide +kernel
theorem dX10_write_48 : decode cX10_write 48 = .ok (.iload_n 1, 1) := by decide +kernel
theorem dX10_write_49 : decode cX10_write 49 = .ok (.iload_n 2, 1) := by decide +kernel
theorem dX10_write_50 : decode cX10_write 50 = .ok (.lload_n 3, 1) := by decide +kernel
theorem dX10_write_51 : decode cX10_write 51 = .ok (.invokevirtual 447, 3) := by decide +kernel
theorem dX10_write_54 : decode cX10_write 54 = .ok (.iconst 0, 1) := by decide +kernel
theorem dX10_write_55 : decode cX10_write 55 = .ok (.ireturn, 1) := by decide +kernel
theorem dX10_paste_0 : decode cX10_paste 0 = .ok (.iload_n 1, 1) := by decide +kernel
theorem dX10_paste_1 : decode cX10_paste 1 = .ok (.invokestatic 435, 3) := by decide +kernel
theorem dX10_paste_4 : decode cX10_paste 4 = .ok (.ifCond .eq 10, 3) := by decide +kernel
theorem dX10_paste_7 : decode cX10_paste 7 = .ok (.iload_n 3, 1) := by decide +kernel
theorem dX10_paste_8 : decode cX10_paste 8 = .ok (.invokestatic 435, 3) := by decide +kernel
theorem dX10_paste_11 : decode cX10_paste 11 = .ok (.ifCond .ne 6, 3) := by decide +kernel
theorem dX10_paste_14 : decode cX10_paste 14 = .ok (.bipush (-2), 2) := by decide +kernel
theorem dX10_paste_16 : decode cX10_paste 16 = .ok (.ireturn, 1) := by decide +kernel
theorem dX10_paste_17 : decode cX10_paste 17 = .ok (.aload_n 0, 1) := by decide +kernel
theorem dX10_paste_18 : decode cX10_paste 18 = .ok (.getfield 73, 3) := by decide +kernel
theorem dX10_paste_21 : decode cX10_paste 21 = .ok (.iload_n 1, 1) := by decide +kernel
theorem dX10_paste_22 : decode cX10_paste 22 = .ok (.invokevirtual 441, 3) := by decide +kernel
theorem dX10_paste_25 : decode cX10_paste 25 = .ok (.ifCond .ne 14, 3) := by decide +kernel
theorem dX10_paste_28 : decode cX10_paste 28 = .ok (.aload_n 0, 1) := by decide +kernel
theorem dX10_paste_29 : decode cX10_paste 29 = .ok (.getfield 73, 3) := by decide +kernel
theorem dX10_paste_32 : decode cX10_paste 32 = .ok (.iload_n 3, 1) := by decide +kernel
theorem dX10_paste_33 : decode cX10_paste 33 = .ok (.invokevirtual 441, 3) := by decide +kernel
theorem dX10_paste_36 : decode cX10_paste 36 = .ok (.ifCond .eq 6, 3) := by decide +kernel
theorem dX10_paste_39 : decode cX10_paste 39 = .ok (.bipush (-6), 2) := by decide +kernel
theorem dX10_paste_41 : decode cX10_paste 41 = .ok (.ireturn, 1) := by decide +kernel
theorem dX10_paste_42 : decode cX10_paste 42 = .ok (.aload_n 0, 1) := by decide +kernel
theorem dX10_paste_43 : decode cX10_paste 43 = .ok (.getfield 73, 3) := by decide +kernel
theorem dX10_paste_46 : decode cX10_paste 46 = .ok (.getfield 451, 3) := by decide +kernel
theorem dX10_paste_49 : decode cX10_paste 49 = .ok (.iload_n 1, 1) := by decide +kernel
theorem dX10_paste_50 : decode cX10_paste 50 = .ok (.iaload, 1) := by decide +kernel
theorem dX10_paste_51 : decode cX10_paste 51 = .ok (.aload_n 0, 1) := by decide +kernel
theorem dX10_paste_52 : decode cX10_paste 52 = .ok (.getfield 73, 3) := by decide +kernel
theorem dX10_paste_55 : decode cX10_paste 55 = .ok (.getfield 451, 3) := by decide +kernel
theorem dX10_paste_58 : decode cX10_paste 58 = .ok (.iload_n 3, 1) := by decide +kernel
theorem dX10_paste_59 : decode cX10_paste 59 = .ok (.iaload, 1) := by decide +kernel
theorem dX10_paste_60 : decode cX10_paste 60 = .ok (.if_icmp .eq 6, 3) := by decide +kernel
theorem dX10_paste_63 : decode cX10_paste 63 = .ok (.bipush (-8), 2) := by decide +kernel
theorem dX10_paste_65 : decode cX10_paste 65 = .ok (.ireturn, 1) := by decide +kernel
theorem dX10_paste_66 : decode cX10_paste 66 = .ok (.aload_n 0, 1) := by decide +kernel
theorem dX10_paste_67 : decode cX10_paste 67 = .ok (.getfield 73, 3) := by decide +kernel
theorem dX10_paste_70 : decode cX10_paste 70 = .ok (.iload_n 1, 1) := by decide +kernel
theorem dX10_paste_71 : decode cX10_paste 71 = .ok (.iload_n 2, 1) := by decide +kernel
theorem dX10_paste_72 : decode cX10_paste 72 = .ok (.iload 5, 2) := by decide +kernel
theorem dX10_paste_74 : decode cX10_paste 74 = .ok (.invokevirtual 454, 3) := by decide +kernel
theorem dX10_paste_77 : decode cX10_paste 77 = .ok (.ifCond .eq 18, 3) := by decide +kernel
theorem dX10_paste_80 : decode cX10_paste 80 = .ok (.aload_n 0, 1) := by decide +kernel
theorem dX10_paste_81 : decode cX10_paste 81 = .ok (.getfield 73, 3) := by decide +kernel
theorem dX10_paste_84 : decode cX10_paste 84 = .ok (.iload_n 3, 1) := by decide +kernel
theorem dX10_paste_85 : decode cX10_paste 85 = .ok (.iload 4, 2) := by decide +kernel
theorem dX10_paste_87 : decode cX10_paste 87 = .ok (.iload 5, 2) := by decide +kernel
theorem dX10_paste_89 : decode cX10_paste 89 = .ok (.invokevirtual 454, 3) := by decide +kernel
theorem dX10_paste_92 : decode cX10_paste 92 = .ok (.ifCond .ne 6, 3) := by decide +kernel
theorem dX10_paste_95 : decode cX10_paste 95 = .ok (.bipush (-7), 2) := by decide +kernel
theorem dX10_paste_97 : decode cX10_paste 97 = .ok (.ireturn, 1) := by decide +kernel
theorem dX10_paste_98 : decode cX10_paste 98 = .ok (.aload_n 0, 1) := by decide +kernel
theorem dX10_paste_99 : decode cX10_paste 99 = .ok (.getfield 73, 3) := by decide +kernel
theorem dX10_paste_102 : decode cX10_paste 102 = .ok (.getfield 458, 3) := by decide +kernel
theorem dX10_paste_105 : decode cX10_paste 105 = .ok (.iload_n 1, 1) := by decide +kernel
theorem dX10_paste_106 : decode cX10_paste 106 = .ok (.aaload, 1) := by decide +kernel
theorem dX10_paste_107 : decode cX10_paste 107 = .ok (.iload_n 2, 1) := by decide +kernel
theorem dX10_paste_108 : decode cX10_paste 108 = .ok (.aload_n 0, 1) := by decide +kernel
theorem dX10_paste_109 : decode cX10_paste 109 = .ok (.getfield 73, 3) := by decide +kernel
theorem dX10_paste_112 : decode cX10_paste 112 = .ok (.getfield 458, 3) := by decide +kernel
theorem dX10_paste_115 : decode cX10_paste 115 = .ok (.iload_n 3, 1) := by decide +kernel
theorem dX10_paste_116 : decode cX10_paste 116 = .ok (.aaload, 1) := by decide +kernel
theorem dX10_paste_117 : decode cX10_paste 117 = .ok (.iload 4, 2) := by decide +kernel
theorem dX10_paste_119 : decode cX10_paste 119 = .ok (.iload 5, 2) := by decide +kernel
theorem dX10_paste_121 : decode cX10_paste 121 = .ok (.invokestatic 462, 3) := by decide +kernel
theorem dX10_paste_124 : decode cX10_paste 124 = .ok (.iconst 0, 1) := by decide +kernel
theorem dX10_paste_125 : decode cX10_paste 125 = .ok (.ireturn, 1) := by decide +kernel
theorem dX6_lay_0 : decode cX6_lay 0 = .ok (.aload_n 0, 1) := by decide +kernel
theorem dX6_lay_1 : decode cX6_lay 1 = .ok (.getfield 16, 3) := by decide +kernel
theorem dX6_lay_4 : decode cX6_lay 4 = .ok (.iload_n 1, 1) := by decide +kernel
theorem dX6_lay_5 : decode cX6_lay 5 = .ok (.iload_n 2, 1) := by decide +kernel
theorem dX6_lay_6 : decode cX6_lay 6 = .ok (.iastore, 1) := by decide +kernel
theorem dX6_lay_7 : decode cX6_lay 7 = .ok (.aload_n 0, 1) := by decide +kernel
theorem dX6_lay_8 : decode cX6_lay 8 = .ok (.getfield 20, 3) := by decide +kernel
theorem dX6_lay_11 : decode cX6_lay 11 = .ok (.iload_n 1, 1) := by decide +kernel
theorem dX6_lay_12 : decode cX6_lay 12 = .ok (.iload_n 3, 1) := by decide +kernel
theorem dX6_lay_13 : decode cX6_lay 13 = .ok (.iastore, 1) := by decide +kernel
theorem dX6_lay_14 : decode cX6_lay 14 = .ok (.iconst 0, 1) := by decide +kernel
theorem dX6_lay_15 : decode cX6_lay 15 = .ok (.istore 4, 2) := by decide +kernel
theorem dX6_lay_17 : decode cX6_lay 17 = .ok (.iload 4, 2) := by decide +kernel
theorem dX6_lay_19 : decode cX6_lay 19 = .ok (.bipush 60, 2) := by decide +kernel
theorem dX6_lay_21 : decode cX6_lay 21 = .ok (.if_icmp .ge 19, 3) := by decide +kernel
theorem dX6_lay_24 : decode cX6_lay 24 = .ok (.aload_n 0, 1) := by decide +kernel
theorem dX6_lay_25 : decode cX6_lay 25 = .ok (.getfield 11, 3) := by decide +kernel
theorem dX6_lay_28 : decode cX6_lay 28 = .ok (.iload_n 1, 1) := by decide +kernel
theorem dX6_lay_29 : decode cX6_lay 29 = .ok (.aaload, 1) := by decide +kernel
theorem dX6_lay_30 : decode cX6_lay 30 = .ok (.iload 4, 2) := by decide +kernel
theorem dX6_lay_32 : decode cX6_lay 32 = .ok (.lconst 0, 1) := by decide +kernel
theorem dX6_lay_33 : decode cX6_lay 33 = .ok (.lastore, 1) := by decide +kernel
theorem dX6_lay_34 : decode cX6_lay 34 = .ok (.iinc 4 1, 3) := by decide +kernel
theorem dX6_lay_37 : decode cX6_lay 37 = .ok (.goto (-20), 3) := by decide +kernel
theorem dX6_lay_40 : decode cX6_lay 40 = .ok (.return_, 1) := by decide +kernel
theorem dX10_row_0 : decode cX10_row 0 = .ok (.iload_n 1, 1) := by decide +kernel
theorem dX10_row_1 : decode cX10_row 1 = .ok (.invokestatic 435, 3) := by decide +kernel
theorem dX10_row_4 : decode cX10_row 4 = .ok (.ifCond .eq 18, 3) := by decide +kernel
theorem dX10_row_7 : decode cX10_row 7 = .ok (.iload_n 2, 1) := by decide +kernel
theorem dX10_row_8 : decode cX10_row 8 = .ok (.ifCond .lt 14, 3) := by decide +kernel
theorem dX10_row_11 : decode cX10_row 11 = .ok (.iload_n 2, 1) := by decide +kernel
theorem dX10_row_12 : decode cX10_row 12 = .ok (.iconst 4, 1) := by decide +kernel
theorem dX10_row_13 : decode cX10_row 13 = .ok (.if_icmp .ge 9, 3) := by decide +kernel
theorem dX10_row_16 : decode cX10_row 16 = .ok (.iload_n 3, 1) := by decide +kernel
theorem dX10_row_17 : decode cX10_row 17 = .ok (.bipush 60, 2) := by decide +kernel
theorem dX10_row_19 : decode cX10_row 19 = .ok (.if_icmp .le 6, 3) := by decide +kernel
theorem dX10_row_22 : decode cX10_row 22 = .ok (.bipush (-2), 2) := by decide +kernel
theorem dX10_row_24 : decode cX10_row 24 = .ok (.ireturn, 1) := by decide +kernel
theorem dX10_row_25 : decode cX10_row 25 = .ok (.iload_n 3, 1) := by decide +kernel
theorem dX10_row_26 : decode cX10_row 26 = .ok (.ifCond .ge 6, 3) := by decide +kernel
theorem dX10_row_29 : decode cX10_row 29 = .ok (.bipush (-3), 2) := by decide +kernel
theorem dX10_row_31 : decode cX10_row 31 = .ok (.ireturn, 1) := by decide +kernel
theorem dX10_row_32 : decode cX10_row 32 = .ok (.aload_n 0, 1) := by decide +kernel
theorem dX10_row_33 : decode cX10_row 33 = .ok (.getfield 73, 3) := by decide +kernel
theorem dX10_row_36 : decode cX10_row 36 = .ok (.iload_n 1, 1) := by decide +kernel
theorem dX10_row_37 : decode cX10_row 37 = .ok (.iload_n 2, 1) := by decide +kernel
theorem dX10_row_38 : decode cX10_row 38 = .ok (.iload_n 3, 1) := by decide +kernel
theorem dX10_row_39 : decode cX10_row 39 = .ok (.invokevirtual 438, 3) := by decide +kernel
theorem dX10_row_42 : decode cX10_row 42 = .ok (.iconst 0, 1) := by decide +kernel
theorem dX10_row_43 : decode cX10_row 43 = .ok (.ireturn, 1) := by decide +kernel
theorem dX10_back_0 : decode cX10_back 0 = .ok (.iload_n 1, 1) := by decide +kernel
theorem dX10_back_1 : decode cX10_back 1 = .ok (.ifCond .lt 8, 3) := by decide +kernel
theorem dX10_back_4 : decode cX10_back 4 = .ok (.iload_n 1, 1) := by decide +kernel
theorem dX10_back_5 : decode cX10_back 5 = .ok (.iconst 3, 1) := by decide +kernel
theorem dX10_back_6 : decode cX10_back 6 = .ok (.if_icmp .lt 6, 3) := by decide +kernel
theorem dX10_back_9 : decode cX10_back 9 = .ok (.bipush (-2), 2) := by decide +kernel
theorem dX10_back_11 : decode cX10_back 11 = .ok (.ireturn, 1) := by decide +kernel
theorem dX10_back_12 : decode cX10_back 12 = .ok (.aload_n 0, 1) := by decide +kernel
theorem dX10_back_13 : decode cX10_back 13 = .ok (.getfield 99, 3) := by decide +kernel
theorem dX10_back_16 : decode cX10_back 16 = .ok (.iload_n 1, 1) := by decide +kernel
theorem dX10_back_17 : decode cX10_back 17 = .ok (.baload, 1) := by decide +kernel
theorem dX10_back_18 : decode cX10_back 18 = .ok (.ifCond .ne 6, 3) := by decide +kernel
theorem dX10_back_21 : decode cX10_back 21 = .ok (.bipush (-6), 2) := by decide +kernel
theorem dX10_back_23 : decode cX10_back 23 = .ok (.ireturn, 1) := by decide +kernel
theorem dX10_back_24 : decode cX10_back 24 = .ok (.aload_n 0, 1) := by decide +kernel
theorem dX10_back_25 : decode cX10_back 25 = .ok (.getfield 23, 3) := by decide +kernel
theorem dX10_back_28 : decode cX10_back 28 = .ok (.aload_n 0, 1) := by decide +kernel
theorem dX10_back_29 : decode cX10_back 29 = .ok (.getfield 95, 3) := by decide +kernel
theorem dX10_back_32 : decode cX10_back 32 = .ok (.iload_n 1, 1) := by decide +kernel
theorem dX10_back_33 : decode cX10_back 33 = .ok (.aaload, 1) := by decide +kernel
theorem dX10_back_34 : decode cX10_back 34 = .ok (.invokevirtual 122, 3) := by decide +kernel
theorem dX10_back_37 : decode cX10_back 37 = .ok (.aload_n 0, 1) := by decide +kernel
theorem dX10_back_38 : decode cX10_back 38 = .ok (.invokevirtual 103, 3) := by decide +kernel
theorem dX10_back_41 : decode cX10_back 41 = .ok (.iconst 0, 1) := by decide +kernel
theorem dX10_back_42 : decode cX10_back 42 = .ok (.ireturn, 1) := by decide +kernel
theorem dX2_copy_0 : decode cX2_copy 0 = .ok (.aload_n 0, 1) := by decide +kernel
theorem dX2_copy_1 : decode cX2_copy 1 = .ok (.aload_n 1, 1) := by decide +kernel
theorem dX2_copy_2 : decode cX2_copy 2 = .ok (.getfield 42, 3) := by decide +kernel
theorem dX2_copy_5 : decode cX2_copy 5 = .ok (.putfield 42, 3) := by decide +kernel
theorem dX2_copy_8 : decode cX2_copy 8 = .ok (.aload_n 0, 1) := by decide +kernel
theorem dX2_copy_9 : decode cX2_copy 9 = .ok (.aload_n 1, 1) := by decide +kernel
theorem dX2_copy_10 : decode cX2_copy 10 = .ok (.getfield 46, 3) := by decide +kernel
theorem dX2_copy_13 : decode cX2_copy 13 = .ok (.putfield 46, 3) := by decide +kernel
theorem dX2_copy_16 : decode cX2_copy 16 = .ok (.aload_n 0, 1) := by decide +kernel
theorem dX2_copy_17 : decode cX2_copy 17 = .ok (.aload_n 1, 1) := by decide +kernel
theorem dX2_copy_18 : decode cX2_copy 18 = .ok (.getfield 49, 3) := by decide +kernel
theorem dX2_copy_21 : decode cX2_copy 21 = .ok (.putfield 49, 3) := by decide +kernel
theorem dX2_copy_24 : decode cX2_copy 24 = .ok (.aload_n 0, 1) := by decide +kernel
theorem dX2_copy_25 : decode cX2_copy 25 = .ok (.aload_n 1, 1) := by decide +kernel
theorem dX2_copy_26 : decode cX2_copy 26 = .ok (.getfield 52, 3) := by decide +kernel
theorem dX2_copy_29 : decode cX2_copy 29 = .ok (.putfield 52, 3) := by decide +kernel
theorem dX2_copy_32 : decode cX2_copy 32 = .ok (.aload_n 0, 1) := by decide +kernel
theorem dX2_copy_33 : decode cX2_copy 33 = .ok (.aload_n 1, 1) := by decide +kernel
theorem dX2_copy_34 : decode cX2_copy 34 = .ok (.getfield 55, 3) := by decide +kernel
theorem dX2_copy_37 : decode cX2_copy 37 = .ok (.putfield 55, 3) := by decide +kernel
theorem dX2_copy_40 : decode cX2_copy 40 = .ok (.aload_n 0, 1) := by decide +kernel
theorem dX2_copy_41 : decode cX2_copy 41 = .ok (.aload_n 1, 1) := by decide +kernel
theorem dX2_copy_42 : decode cX2_copy 42 = .ok (.getfield 58, 3) := by decide +kernel
theorem dX2_copy_45 : decode cX2_copy 45 = .ok (.putfield 58, 3) := by decide +kernel
theorem dX2_copy_48 : decode cX2_copy 48 = .ok (.aload_n 0, 1) := by decide +kernel
theorem dX2_copy_49 : decode cX2_copy 49 = .ok (.aload_n 1, 1) := by decide +kernel
theorem dX2_copy_50 : decode cX2_copy 50 = .ok (.getfield 61, 3) := by decide +kernel
theorem dX2_copy_53 : decode cX2_copy 53 = .ok (.putfield 61, 3) := by decide +kernel
theorem dX2_copy_56 : decode cX2_copy 56 = .ok (.aload_n 0, 1) := by decide +kernel
theorem dX2_copy_57 : decode cX2_copy 57 = .ok (.aload_n 1, 1) := by decide +kernel
theorem dX2_copy_58 : decode cX2_copy 58 = .ok (.getfield 64, 3) := by decide +kernel
theorem dX2_copy_61 : decode cX2_copy 61 = .ok (.putfield 64, 3) := by decide +kernel
theorem dX2_copy_64 : decode cX2_copy 64 = .ok (.aload_n 0, 1) := by decide +kernel
theorem dX2_copy_65 : decode cX2_copy 65 = .ok (.aload_n 1, 1) := by decide +kernel
theorem dX2_copy_66 : decode cX2_copy 66 = .ok (.getfield 67, 3) := by decide +kernel
theorem dX2_copy_69 : decode cX2_copy 69 = .ok (.putfield 67, 3) := by decide +kernel
theorem dX2_copy_72 : decode cX2_copy 72 = .ok (.aload_n 1, 1) := by decide +kernel
theorem dX2_copy_73 : decode cX2_copy 73 = .ok (.getfield 9, 3) := by decide +kernel
theorem dX2_copy_76 : decode cX2_copy 76 = .ok (.iconst 0, 1) := by decide +kernel
theorem dX2_copy_77 : decode cX2_copy 77 = .ok (.aload_n 0, 1) := by decide +kernel
theorem dX2_copy_78 : decode cX2_copy 78 = .ok (.getfield 9, 3) := by decide +kernel
theorem dX2_copy_81 : decode cX2_copy 81 = .ok (.iconst 0, 1) := by decide +kernel
theorem dX2_copy_82 : decode cX2_copy 82 = .ok (.bipush 12, 2) := by decide +kernel
theorem dX2_copy_84 : decode cX2_copy 84 = .ok (.invokestatic 70, 3) := by decide +kernel
theorem dX2_copy_87 : decode cX2_copy 87 = .ok (.aload_n 1, 1) := by decide +kernel
theorem dX2_copy_88 : decode cX2_copy 88 = .ok (.getfield 15, 3) := by decide +kernel
theorem dX2_copy_91 : decode cX2_copy 91 = .ok (.iconst 0, 1) := by decide +kernel
theorem dX2_copy_92 : decode cX2_copy 92 = .ok (.aload_n 0, 1) := by decide +kernel
theorem dX2_copy_93 : decode cX2_copy 93 = .ok (.getfield 15, 3) := by decide +kernel
theorem dX2_copy_96 : decode cX2_copy 96 = .ok (.iconst 0, 1) := by decide +kernel
theorem dX2_copy_97 : decode cX2_copy 97 = .ok (.bipush 12, 2) := by decide +kernel
theorem dX2_copy_99 : decode cX2_copy 99 = .ok (.invokestatic 70, 3) := by decide +kernel
theorem dX2_copy_102 : decode cX2_copy 102 = .ok (.aload_n 1, 1) := by decide +kernel
theorem dX2_copy_103 : decode cX2_copy 103 = .ok (.getfield 18, 3) := by decide +kernel
theorem dX2_copy_106 : decode cX2_copy 106 = .ok (.iconst 0, 1) := by decide +kernel
theorem dX2_copy_107 : decode cX2_copy 107 = .ok (.aload_n 0, 1) := by decide +kernel
theorem dX2_copy_108 : decode cX2_copy 108 = .ok (.getfield 18, 3) := by decide +kernel
theorem dX2_copy_111 : decode cX2_copy 111 = .ok (.iconst 0, 1) := by decide +kernel
theorem dX2_copy_112 : decode cX2_copy 112 = .ok (.bipush 12, 2) := by decide +kernel
theorem dX2_copy_114 : decode cX2_copy 114 = .ok (.invokestatic 70, 3) := by decide +kernel
theorem dX2_copy_117 : decode cX2_copy 117 = .ok (.aload_n 1, 1) := by decide +kernel
theorem dX2_copy_118 : decode cX2_copy 118 = .ok (.getfield 21, 3) := by decide +kernel
theorem dX2_copy_121 : decode cX2_copy 121 = .ok (.iconst 0, 1) := by decide +kernel
theorem dX2_copy_122 : decode cX2_copy 122 = .ok (.aload_n 0, 1) := by decide +kernel
theorem dX2_copy_123 : decode cX2_copy 123 = .ok (.getfield 21, 3) := by decide +kernel
theorem dX2_copy_126 : decode cX2_copy 126 = .ok (.iconst 0, 1) := by decide +kernel
theorem dX2_copy_127 : decode cX2_copy 127 = .ok (.bipush 12, 2) := by decide +kernel
theorem dX2_copy_129 : decode cX2_copy 129 = .ok (.invokestatic 70, 3) := by decide +kernel
theorem dX2_copy_132 : decode cX2_copy 132 = .ok (.aload_n 1, 1) := by decide +kernel
theorem dX2_copy_133 : decode cX2_copy 133 = .ok (.getfield 24, 3) := by decide +kernel
theorem dX2_copy_136 : decode cX2_copy 136 = .ok (.iconst 0, 1) := by decide +kernel
theorem dX2_copy_137 : decode cX2_copy 137 = .ok (.aload_n 0, 1) := by decide +kernel
theorem dX2_copy_138 : decode cX2_copy 138 = .ok (.getfield 24, 3) := by decide +kernel
theorem dX2_copy_141 : decode cX2_copy 141 = .ok (.iconst 0, 1) := by decide +kernel
theorem dX2_copy_142 : decode cX2_copy 142 = .ok (.bipush 12, 2) := by decide +kernel
theorem dX2_copy_144 : decode cX2_copy 144 = .ok (.invokestatic 70, 3) := by decide +kernel
theorem dX2_copy_147 : decode cX2_copy 147 = .ok (.aload_n 1, 1) := by decide +kernel
theorem dX2_copy_148 : decode cX2_copy 148 = .ok (.getfield 27, 3) := by decide +kernel
theorem dX2_copy_151 : decode cX2_copy 151 = .ok (.iconst 0, 1) := by decide +kernel
theorem dX2_copy_152 : decode cX2_copy 152 = .ok (.aload_n 0, 1) := by decide +kernel
theorem dX2_copy_153 : decode cX2_copy 153 = .ok (.getfield 27, 3) := by decide +kernel
theorem dX2_copy_156 : decode cX2_copy 156 = .ok (.iconst 0, 1) := by decide +kernel
theorem dX2_copy_157 : decode cX2_copy 157 = .ok (.bipush 12, 2) := by decide +kernel
theorem dX2_copy_159 : decode cX2_copy 159 = .ok (.invokestatic 70, 3) := by decide +kernel
theorem dX2_copy_162 : decode cX2_copy 162 = .ok (.aload_n 1, 1) := by decide +kernel
theorem dX2_copy_163 : decode cX2_copy 163 = .ok (.getfield 30, 3) := by decide +kernel
theorem dX2_copy_166 : decode cX2_copy 166 = .ok (.iconst 0, 1) := by decide +kernel
theorem dX2_copy_167 : decode cX2_copy 167 = .ok (.aload_n 0, 1) := by decide +kernel
theorem dX2_copy_168 : decode cX2_copy 168 = .ok (.getfield 30, 3) := by decide +kernel
theorem dX2_copy_171 : decode cX2_copy 171 = .ok (.iconst 0, 1) := by decide +kernel
theorem dX2_copy_172 : decode cX2_copy 172 = .ok (.iconst 4, 1) := by decide +kernel
theorem dX2_copy_173 : decode cX2_copy 173 = .ok (.invokestatic 70, 3) := by decide +kernel
theorem dX2_copy_176 : decode cX2_copy 176 = .ok (.aload_n 1, 1) := by decide +kernel
theorem dX2_copy_177 : decode cX2_copy 177 = .ok (.getfield 33, 3) := by decide +kernel
theorem dX2_copy_180 : decode cX2_copy 180 = .ok (.iconst 0, 1) := by decide +kernel
theorem dX2_copy_181 : decode cX2_copy 181 = .ok (.aload_n 0, 1) := by decide +kernel
theorem dX2_copy_182 : decode cX2_copy 182 = .ok (.getfield 33, 3) := by decide +kernel
theorem dX2_copy_185 : decode cX2_copy 185 = .ok (.iconst 0, 1) := by decide +kernel
theorem dX2_copy_186 : decode cX2_copy 186 = .ok (.bipush 42, 2) := by decide +kernel
theorem dX2_copy_188 : decode cX2_copy 188 = .ok (.invokestatic 70, 3) := by decide +kernel
theorem dX2_copy_191 : decode cX2_copy 191 = .ok (.aload_n 1, 1) := by decide +kernel
theorem dX2_copy_192 : decode cX2_copy 192 = .ok (.getfield 36, 3) := by decide +kernel
theorem dX2_copy_195 : decode cX2_copy 195 = .ok (.iconst 0, 1) := by decide +kernel
theorem dX2_copy_196 : decode cX2_copy 196 = .ok (.aload_n 0, 1) := by decide +kernel
theorem dX2_copy_197 : decode cX2_copy 197 = .ok (.getfield 36, 3) := by decide +kernel
theorem dX2_copy_200 : decode cX2_copy 200 = .ok (.iconst 0, 1) := by decide +kernel
theorem dX2_copy_201 : decode cX2_copy 201 = .ok (.bipush 42, 2) := by decide +kernel
theorem dX2_copy_203 : decode cX2_copy 203 = .ok (.invokestatic 70, 3) := by decide +kernel
theorem dX2_copy_206 : decode cX2_copy 206 = .ok (.aload_n 1, 1) := by decide +kernel
theorem dX2_copy_207 : decode cX2_copy 207 = .ok (.getfield 39, 3) := by decide +kernel
theorem dX2_copy_210 : decode cX2_copy 210 = .ok (.iconst 0, 1) := by decide +kernel
theorem dX2_copy_211 : decode cX2_copy 211 = .ok (.aload_n 0, 1) := by decide +kernel
theorem dX2_copy_212 : decode cX2_copy 212 = .ok (.getfield 39, 3) := by decide +kernel
theorem dX2_copy_215 : decode cX2_copy 215 = .ok (.iconst 0, 1) := by decide +kernel
theorem dX2_copy_216 : decode cX2_copy 216 = .ok (.bipush 42, 2) := by decide +kernel
theorem dX2_copy_218 : decode cX2_copy 218 = .ok (.invokestatic 70, 3) := by decide +kernel
theorem dX2_copy_221 : decode cX2_copy 221 = .ok (.return_, 1) := by decide +kernel
theorem dX10_image_0 : decode cX10_image 0 = .ok (.iload_n 1, 1) := by decide +kernel
theorem dX10_image_1 : decode cX10_image 1 = .ok (.ifCond .lt 8, 3) := by decide +kernel
theorem dX10_image_4 : decode cX10_image 4 = .ok (.iload_n 1, 1) := by decide +kernel
theorem dX10_image_5 : decode cX10_image 5 = .ok (.iconst 3, 1) := by decide +kernel
theorem dX10_image_6 : decode cX10_image 6 = .ok (.if_icmp .lt 6, 3) := by decide +kernel
theorem dX10_image_9 : decode cX10_image 9 = .ok (.bipush (-2), 2) := by decide +kernel
theorem dX10_image_11 : decode cX10_image 11 = .ok (.ireturn, 1) := by decide +kernel
theorem dX10_image_12 : decode cX10_image 12 = .ok (.aload_n 0, 1) := by decide +kernel
theorem dX10_image_13 : decode cX10_image 13 = .ok (.getfield 95, 3) := by decide +kernel
theorem dX10_image_16 : decode cX10_image 16 = .ok (.iload_n 1, 1) := by decide +kernel
theorem dX10_image_17 : decode cX10_image 17 = .ok (.aaload, 1) := by decide +kernel
theorem dX10_image_18 : decode cX10_image 18 = .ok (.aload_n 0, 1) := by decide +kernel
theorem dX10_image_19 : decode cX10_image 19 = .ok (.getfield 23, 3) := by decide +kernel
theorem dX10_image_22 : decode cX10_image 22 = .ok (.invokevirtual 122, 3) := by decide +kernel
theorem dX10_image_25 : decode cX10_image 25 = .ok (.aload_n 0, 1) := by decide +kernel
theorem dX10_image_26 : decode cX10_image 26 = .ok (.getfield 99, 3) := by decide +kernel
theorem dX10_image_29 : decode cX10_image 29 = .ok (.iload_n 1, 1) := by decide +kernel
theorem dX10_image_30 : decode cX10_image 30 = .ok (.iconst 1, 1) := by decide +kernel
theorem dX10_image_31 : decode cX10_image 31 = .ok (.bastore, 1) := by decide +kernel
theorem dX10_image_32 : decode cX10_image 32 = .ok (.iconst 0, 1) := by decide +kernel
theorem dX10_image_33 : decode cX10_image 33 = .ok (.ireturn, 1) := by decide +kernel
theorem dX2_clear_0 : decode cX2_clear 0 = .ok (.aload_n 0, 1) := by decide +kernel
theorem dX2_clear_1 : decode cX2_clear 1 = .ok (.iconst 0, 1) := by decide +kernel
theorem dX2_clear_2 : decode cX2_clear 2 = .ok (.putfield 42, 3) := by decide +kernel
theorem dX2_clear_5 : decode cX2_clear 5 = .ok (.aload_n 0, 1) := by decide +kernel
theorem dX2_clear_6 : decode cX2_clear 6 = .ok (.iconst 0, 1) := by decide +kernel
theorem dX2_clear_7 : decode cX2_clear 7 = .ok (.putfield 46, 3) := by decide +kernel
theorem dX2_clear_10 : decode cX2_clear 10 = .ok (.aload_n 0, 1) := by decide +kernel
theorem dX2_clear_11 : decode cX2_clear 11 = .ok (.iconst 0, 1) := by decide +kernel
theorem dX2_clear_12 : decode cX2_clear 12 = .ok (.putfield 49, 3) := by decide +kernel
theorem dX2_clear_15 : decode cX2_clear 15 = .ok (.aload_n 0, 1) := by decide +kernel
theorem dX2_clear_16 : decode cX2_clear 16 = .ok (.iconst 0, 1) := by decide +kernel
theorem dX2_clear_17 : decode cX2_clear 17 = .ok (.putfield 52, 3) := by decide +kernel
theorem dX2_clear_20 : decode cX2_clear 20 = .ok (.aload_n 0, 1) := by decide +kernel
theorem dX2_clear_21 : decode cX2_clear 21 = .ok (.iconst 0, 1) := by decide +kernel
theorem dX2_clear_22 : decode cX2_clear 22 = .ok (.putfield 55, 3) := by decide +kernel
theorem dX2_clear_25 : decode cX2_clear 25 = .ok (.aload_n 0, 1) := by decide +kernel
theorem dX2_clear_26 : decode cX2_clear 26 = .ok (.iconst 0, 1) := by decide +kernel
theorem dX2_clear_27 : decode cX2_clear 27 = .ok (.putfield 58, 3) := by decide +kernel
theorem dX2_clear_30 : decode cX2_clear 30 = .ok (.aload_n 0, 1) := by decide +kernel
theorem dX2_clear_31 : decode cX2_clear 31 = .ok (.iconst 0, 1) := by decide +kernel
theorem dX2_clear_32 : decode cX2_clear 32 = .ok (.putfield 61, 3) := by decide +kernel
theorem dX2_clear_35 : decode cX2_clear 35 = .ok (.aload_n 0, 1) := by decide +kernel
theorem dX2_clear_36 : decode cX2_clear 36 = .ok (.iconst 0, 1) := by decide +kernel
theorem dX2_clear_37 : decode cX2_clear 37 = .ok (.putfield 64, 3) := by decide +kernel
theorem dX2_clear_40 : decode cX2_clear 40 = .ok (.aload_n 0, 1) := by decide +kernel
theorem dX2_clear_41 : decode cX2_clear 41 = .ok (.iconst 0, 1) := by decide +kernel
theorem dX2_clear_42 : decode cX2_clear 42 = .ok (.putfield 67, 3) := by decide +kernel
theorem dX2_clear_45 : decode cX2_clear 45 = .ok (.return_, 1) := by decide +kernel
theorem dX2_findNeighbours_0 : decode cX2_findNeighbours 0 = .ok (.iconst 0, 1) := by decide +kernel
theorem dX2_findNeighbours_1 : decode cX2_findNeighbours 1 = .ok (.istore_n 1, 1) := by decide +kernel
theorem dX2_findNeighbours_2 : decode cX2_findNeighbours 2 = .ok (.iload_n 1, 1) := by decide +kernel
theorem dX2_findNeighbours_3 : decode cX2_findNeighbours 3 = .ok (.aload_n 0, 1) := by decide +kernel
theorem dX2_findNeighbours_4 : decode cX2_findNeighbours 4 = .ok (.getfield 58, 3) := by decide +kernel
theorem dX2_findNeighbours_7 : decode cX2_findNeighbours 7 = .ok (.if_icmp .ge 116, 3) := by decide +kernel
theorem dX2_findNeighbours_10 : decode cX2_findNeighbours 10 = .ok (.aload_n 0, 1) := by decide +kernel
theorem dX2_findNeighbours_11 : decode cX2_findNeighbours 11 = .ok (.getfield 27, 3) := by decide +kernel
theorem dX2_findNeighbours_14 : decode cX2_findNeighbours 14 = .ok (.iload_n 1, 1) := by decide +kernel
theorem dX2_findNeighbours_15 : decode cX2_findNeighbours 15 = .ok (.iconst 0, 1) := by decide +kernel
theorem dX2_findNeighbours_16 : decode cX2_findNeighbours 16 = .ok (.iastore, 1) := by decide +kernel
theorem dX2_findNeighbours_17 : decode cX2_findNeighbours 17 = .ok (.aload_n 0, 1) := by decide +kernel
theorem dX2_findNeighbours_18 : decode cX2_findNeighbours 18 = .ok (.getfield 24, 3) := by decide +kernel
theorem dX2_findNeighbours_21 : decode cX2_findNeighbours 21 = .ok (.iload_n 1, 1) := by decide +kernel
theorem dX2_findNeighbours_22 : decode cX2_findNeighbours 22 = .ok (.iconst 0, 1) := by decide +kernel
theorem dX2_findNeighbours_23 : decode cX2_findNeighbours 23 = .ok (.iastore, 1) := by decide +kernel
theorem dX2_findNeighbours_24 : decode cX2_findNeighbours 24 = .ok (.iconst 0, 1) := by decide +kernel
theorem dX2_findNeighbours_25 : decode cX2_findNeighbours 25 = .ok (.istore_n 2, 1) := by decide +kernel
theorem dX2_findNeighbours_26 : decode cX2_findNeighbours 26 = .ok (.iload_n 2, 1) := by decide +kernel
theorem dX2_findNeighbours_27 : decode cX2_findNeighbours 27 = .ok (.aload_n 0, 1) := by decide +kernel
theorem dX2_findNeighbours_28 : decode cX2_findNeighbours 28 = .ok (.getfield 58, 3) := by decide +kernel
theorem dX2_findNeighbours_31 : decode cX2_findNeighbours 31 = .ok (.if_icmp .ge 86, 3) := by decide +kernel
theorem dX2_findNeighbours_34 : decode cX2_findNeighbours 34 = .ok (.aload_n 0, 1) := by decide +kernel
theorem dX2_findNeighbours_35 : decode cX2_findNeighbours 35 = .ok (.getfield 18, 3) := by decide +kernel
theorem dX2_findNeighbours_38 : decode cX2_findNeighbours 38 = .ok (.iload_n 1, 1) := by decide +kernel
theorem dX2_findNeighbours_39 : decode cX2_findNeighbours 39 = .ok (.iaload, 1) := by decide +kernel
theorem dX2_findNeighbours_40 : decode cX2_findNeighbours 40 = .ok (.aload_n 0, 1) := by decide +kernel
theorem dX2_findNeighbours_41 : decode cX2_findNeighbours 41 = .ok (.getfield 18, 3) := by decide +kernel
theorem dX2_findNeighbours_44 : decode cX2_findNeighbours 44 = .ok (.iload_n 2, 1) := by decide +kernel
theorem dX2_findNeighbours_45 : decode cX2_findNeighbours 45 = .ok (.iaload, 1) := by decide +kernel
theorem dX2_findNeighbours_46 : decode cX2_findNeighbours 46 = .ok (.isub, 1) := by decide +kernel
theorem dX2_findNeighbours_47 : decode cX2_findNeighbours 47 = .ok (.invokestatic 90, 3) := by decide +kernel
theorem dX2_findNeighbours_50 : decode cX2_findNeighbours 50 = .ok (.istore_n 3, 1) := by decide +kernel
theorem dX2_findNeighbours_51 : decode cX2_findNeighbours 51 = .ok (.aload_n 0, 1) := by decide +kernel
theorem dX2_findNeighbours_52 : decode cX2_findNeighbours 52 = .ok (.getfield 21, 3) := by decide +kernel
theorem dX2_findNeighbours_55 : decode cX2_findNeighbours 55 = .ok (.iload_n 1, 1) := by decide +kernel
theorem dX2_findNeighbours_56 : decode cX2_findNeighbours 56 = .ok (.iaload, 1) := by decide +kernel
theorem dX2_findNeighbours_57 : decode cX2_findNeighbours 57 = .ok (.aload_n 0, 1) := by decide +kernel
theorem dX2_findNeighbours_58 : decode cX2_findNeighbours 58 = .ok (.getfield 21, 3) := by decide +kernel
theorem dX2_findNeighbours_61 : decode cX2_findNeighbours 61 = .ok (.iload_n 2, 1) := by decide +kernel
theorem dX2_findNeighbours_62 : decode cX2_findNeighbours 62 = .ok (.iaload, 1) := by decide +kernel
theorem dX2_findNeighbours_63 : decode cX2_findNeighbours 63 = .ok (.isub, 1) := by decide +kernel
theorem dX2_findNeighbours_64 : decode cX2_findNeighbours 64 = .ok (.invokestatic 90, 3) := by decide +kernel
theorem dX2_findNeighbours_67 : decode cX2_findNeighbours 67 = .ok (.istore 4, 2) := by decide +kernel
theorem dX2_findNeighbours_69 : decode cX2_findNeighbours 69 = .ok (.iload_n 3, 1) := by decide +kernel
theorem dX2_findNeighbours_70 : decode cX2_findNeighbours 70 = .ok (.iload 4, 2) := by decide +kernel
theorem dX2_findNeighbours_72 : decode cX2_findNeighbours 72 = .ok (.iadd, 1) := by decide +kernel
theorem dX2_findNeighbours_73 : decode cX2_findNeighbours 73 = .ok (.iconst 1, 1) := by decide +kernel
theorem dX2_findNeighbours_74 : decode cX2_findNeighbours 74 = .ok (.if_icmp .ne 15, 3) := by decide +kernel
theorem dX2_findNeighbours_77 : decode cX2_findNeighbours 77 = .ok (.aload_n 0, 1) := by decide +kernel
theorem dX2_findNeighbours_78 : decode cX2_findNeighbours 78 = .ok (.getfield 24, 3) := by decide +kernel
theorem dX2_findNeighbours_81 : decode cX2_findNeighbours 81 = .ok (.iload_n 1, 1) := by decide +kernel
theorem dX2_findNeighbours_82 : decode cX2_findNeighbours 82 = .ok (.dup2, 1) := by decide +kernel
theorem dX2_findNeighbours_83 : decode cX2_findNeighbours 83 = .ok (.iaload, 1) := by decide +kernel
theorem dX2_findNeighbours_84 : decode cX2_findNeighbours 84 = .ok (.iconst 1, 1) := by decide +kernel
theorem dX2_findNeighbours_85 : decode cX2_findNeighbours 85 = .ok (.iload_n 2, 1) := by decide +kernel
theorem dX2_findNeighbours_86 : decode cX2_findNeighbours 86 = .ok (.ishl, 1) := by decide +kernel
theorem dX2_findNeighbours_87 : decode cX2_findNeighbours 87 = .ok (.ior, 1) := by decide +kernel
theorem dX2_findNeighbours_88 : decode cX2_findNeighbours 88 = .ok (.iastore, 1) := by decide +kernel
theorem dX2_findNeighbours_89 : decode cX2_findNeighbours 89 = .ok (.iload_n 3, 1) := by decide +kernel
theorem dX2_findNeighbours_90 : decode cX2_findNeighbours 90 = .ok (.ifCond .ne 21, 3) := by decide +kernel
theorem dX2_findNeighbours_93 : decode cX2_findNeighbours 93 = .ok (.iload 4, 2) := by decide +kernel
theorem dX2_findNeighbours_95 : decode cX2_findNeighbours 95 = .ok (.iconst 1, 1) := by decide +kernel
theorem dX2_findNeighbours_96 : decode cX2_findNeighbours 96 = .ok (.if_icmp .ne 15, 3) := by decide +kernel
theorem dX2_findNeighbours_99 : decode cX2_findNeighbours 99 = .ok (.aload_n 0, 1) := by decide +kernel
theorem dX2_findNeighbours_100 : decode cX2_findNeighbours 100 = .ok (.getfield 27, 3) := by decide +kernel
theorem dX2_findNeighbours_103 : decode cX2_findNeighbours 103 = .ok (.iload_n 1, 1) := by decide +kernel
theorem dX2_findNeighbours_104 : decode cX2_findNeighbours 104 = .ok (.dup2, 1) := by decide +kernel
theorem dX2_findNeighbours_105 : decode cX2_findNeighbours 105 = .ok (.iaload, 1) := by decide +kernel
theorem dX2_findNeighbours_106 : decode cX2_findNeighbours 106 = .ok (.iconst 1, 1) := by decide +kernel
theorem dX2_findNeighbours_107 : decode cX2_findNeighbours 107 = .ok (.iload_n 2, 1) := by decide +kernel
theorem dX2_findNeighbours_108 : decode cX2_findNeighbours 108 = .ok (.ishl, 1) := by decide +kernel
theorem dX2_findNeighbours_109 : decode cX2_findNeighbours 109 = .ok (.ior, 1) := by decide +kernel
theorem dX2_findNeighbours_110 : decode cX2_findNeighbours 110 = .ok (.iastore, 1) := by decide +kernel
theorem dX2_findNeighbours_111 : decode cX2_findNeighbours 111 = .ok (.iinc 2 1, 3) := by decide +kernel
theorem dX2_findNeighbours_114 : decode cX2_findNeighbours 114 = .ok (.goto (-88), 3) := by decide +kernel
theorem dX2_findNeighbours_117 : decode cX2_findNeighbours 117 = .ok (.iinc 1 1, 3) := by decide +kernel
theorem dX2_findNeighbours_120 : decode cX2_findNeighbours 120 = .ok (.goto (-118), 3) := by decide +kernel
theorem dX2_findNeighbours_123 : decode cX2_findNeighbours 123 = .ok (.return_, 1) := by decide +kernel
theorem dX4_advance_0 : decode cX4_advance 0 = .ok (.aload_n 0, 1) := by decide +kernel
theorem dX4_advance_1 : decode cX4_advance 1 = .ok (.aload_n 0, 1) := by decide +kernel
theorem dX4_advance_2 : decode cX4_advance 2 = .ok (.getfield 30, 3) := by decide +kernel
theorem dX4_advance_5 : decode cX4_advance 5 = .ok (.putfield 148, 3) := by decide +kernel
theorem dX4_advance_8 : decode cX4_advance 8 = .ok (.aload_n 0, 1) := by decide +kernel
theorem dX4_advance_9 : decode cX4_advance 9 = .ok (.getfield 148, 3) := by decide +kernel
theorem dX4_advance_12 : decode cX4_advance 12 = .ok (.aload_n 0, 1) := by decide +kernel
theorem dX4_advance_13 : decode cX4_advance 13 = .ok (.getfield 19, 3) := by decide +kernel
theorem dX4_advance_16 : decode cX4_advance 16 = .ok (.if_icmp .ge 32, 3) := by decide +kernel
theorem dX4_advance_19 : decode cX4_advance 19 = .ok (.aload_n 0, 1) := by decide +kernel
theorem dX4_advance_20 : decode cX4_advance 20 = .ok (.getfield 9, 3) := by decide +kernel
theorem dX4_advance_23 : decode cX4_advance 23 = .ok (.aload_n 0, 1) := by decide +kernel
theorem dX4_advance_24 : decode cX4_advance 24 = .ok (.getfield 148, 3) := by decide +kernel
theorem dX4_advance_27 : decode cX4_advance 27 = .ok (.baload, 1) := by decide +kernel
theorem dX4_advance_28 : decode cX4_advance 28 = .ok (.invokestatic 160, 3) := by decide +kernel
theorem dX4_advance_31 : decode cX4_advance 31 = .ok (.iconst 5, 1) := by decide +kernel
theorem dX4_advance_32 : decode cX4_advance 32 = .ok (.if_icmp .ne 16, 3) := by decide +kernel
theorem dX4_advance_35 : decode cX4_advance 35 = .ok (.aload_n 0, 1) := by decide +kernel
theorem dX4_advance_36 : decode cX4_advance 36 = .ok (.dup, 1) := by decide +kernel
theorem dX4_advance_37 : decode cX4_advance 37 = .ok (.getfield 148, 3) := by decide +kernel
theorem dX4_advance_40 : decode cX4_advance 40 = .ok (.iconst 1, 1) := by decide +kernel
theorem dX4_advance_41 : decode cX4_advance 41 = .ok (.iadd, 1) := by decide +kernel
theorem dX4_advance_42 : decode cX4_advance 42 = .ok (.putfield 148, 3) := by decide +kernel
theorem dX4_advance_45 : decode cX4_advance 45 = .ok (.goto (-37), 3) := by decide +kernel
theorem dX4_advance_48 : decode cX4_advance 48 = .ok (.aload_n 0, 1) := by decide +kernel
theorem dX4_advance_49 : decode cX4_advance 49 = .ok (.aload_n 0, 1) := by decide +kernel
theorem dX4_advance_50 : decode cX4_advance 50 = .ok (.getfield 148, 3) := by decide +kernel
theorem dX4_advance_53 : decode cX4_advance 53 = .ok (.aload_n 0, 1) := by decide +kernel
theorem dX4_advance_54 : decode cX4_advance 54 = .ok (.getfield 19, 3) := by decide +kernel
theorem dX4_advance_57 : decode cX4_advance 57 = .ok (.if_icmp .ge 18, 3) := by decide +kernel
theorem dX4_advance_60 : decode cX4_advance 60 = .ok (.aload_n 0, 1) := by decide +kernel
theorem dX4_advance_61 : decode cX4_advance 61 = .ok (.getfield 9, 3) := by decide +kernel
theorem dX4_advance_64 : decode cX4_advance 64 = .ok (.aload_n 0, 1) := by decide +kernel
theorem dX4_advance_65 : decode cX4_advance 65 = .ok (.getfield 148, 3) := by decide +kernel
theorem dX4_advance_68 : decode cX4_advance 68 = .ok (.baload, 1) := by decide +kernel
theorem dX4_advance_69 : decode cX4_advance 69 = .ok (.invokestatic 160, 3) := by decide +kernel
theorem dX4_advance_72 : decode cX4_advance 72 = .ok (.goto 4, 3) := by decide +kernel
theorem dX4_advance_75 : decode cX4_advance 75 = .ok (.iconst 0, 1) := by decide +kernel
theorem dX4_advance_76 : decode cX4_advance 76 = .ok (.putfield 36, 3) := by decide +kernel
theorem dX4_advance_79 : decode cX4_advance 79 = .ok (.aload_n 0, 1) := by decide +kernel
theorem dX4_advance_80 : decode cX4_advance 80 = .ok (.iconst 0, 1) := by decide +kernel
theorem dX4_advance_81 : decode cX4_advance 81 = .ok (.putfield 145, 3) := by decide +kernel
theorem dX4_advance_84 : decode cX4_advance 84 = .ok (.aload_n 0, 1) := by decide +kernel
theorem dX4_advance_85 : decode cX4_advance 85 = .ok (.aload_n 0, 1) := by decide +kernel
theorem dX4_advance_86 : decode cX4_advance 86 = .ok (.getfield 148, 3) := by decide +kernel
theorem dX4_advance_89 : decode cX4_advance 89 = .ok (.putfield 30, 3) := by decide +kernel
theorem dX4_advance_92 : decode cX4_advance 92 = .ok (.aload_n 0, 1) := by decide +kernel
theorem dX4_advance_93 : decode cX4_advance 93 = .ok (.getfield 36, 3) := by decide +kernel
theorem dX4_advance_96 : decode cX4_advance 96 = .ok (.iconst 1, 1) := by decide +kernel
theorem dX4_advance_97 : decode cX4_advance 97 = .ok (.if_icmp .eq 11, 3) := by decide +kernel
theorem dX4_advance_100 : decode cX4_advance 100 = .ok (.aload_n 0, 1) := by decide +kernel
theorem dX4_advance_101 : decode cX4_advance 101 = .ok (.getfield 36, 3) := by decide +kernel
theorem dX4_advance_104 : decode cX4_advance 104 = .ok (.iconst 2, 1) := by decide +kernel
theorem dX4_advance_105 : decode cX4_advance 105 = .ok (.if_icmp .ne 7, 3) := by decide +kernel
theorem dX4_advance_108 : decode cX4_advance 108 = .ok (.iconst 1, 1) := by decide +kernel
theorem dX4_advance_109 : decode cX4_advance 109 = .ok (.goto 4, 3) := by decide +kernel
theorem dX4_advance_112 : decode cX4_advance 112 = .ok (.iconst 0, 1) := by decide +kernel
theorem dX4_advance_113 : decode cX4_advance 113 = .ok (.istore_n 1, 1) := by decide +kernel
theorem dX4_advance_114 : decode cX4_advance 114 = .ok (.aload_n 0, 1) := by decide +kernel
theorem dX4_advance_115 : decode cX4_advance 115 = .ok (.getfield 30, 3) := by decide +kernel
theorem dX4_advance_118 : decode cX4_advance 118 = .ok (.aload_n 0, 1) := by decide +kernel
theorem dX4_advance_119 : decode cX4_advance 119 = .ok (.getfield 19, 3) := by decide +kernel
theorem dX4_advance_122 : decode cX4_advance 122 = .ok (.if_icmp .ge 88, 3) := by decide +kernel
theorem dX4_advance_125 : decode cX4_advance 125 = .ok (.aload_n 0, 1) := by decide +kernel
theorem dX4_advance_126 : decode cX4_advance 126 = .ok (.getfield 9, 3) := by decide +kernel
theorem dX4_advance_129 : decode cX4_advance 129 = .ok (.aload_n 0, 1) := by decide +kernel
theorem dX4_advance_130 : decode cX4_advance 130 = .ok (.getfield 30, 3) := by decide +kernel
theorem dX4_advance_133 : decode cX4_advance 133 = .ok (.baload, 1) := by decide +kernel
theorem dX4_advance_134 : decode cX4_advance 134 = .ok (.invokestatic 160, 3) := by decide +kernel
theorem dX4_advance_137 : decode cX4_advance 137 = .ok (.aload_n 0, 1) := by decide +kernel
theorem dX4_advance_138 : decode cX4_advance 138 = .ok (.getfield 36, 3) := by decide +kernel
theorem dX4_advance_141 : decode cX4_advance 141 = .ok (.if_icmp .ne 69, 3) := by decide +kernel
theorem dX4_advance_144 : decode cX4_advance 144 = .ok (.iload_n 1, 1) := by decide +kernel
theorem dX4_advance_145 : decode cX4_advance 145 = .ok (.ifCond .ne 14, 3) := by decide +kernel
theorem dX4_advance_148 : decode cX4_advance 148 = .ok (.aload_n 0, 1) := by decide +kernel
theorem dX4_advance_149 : decode cX4_advance 149 = .ok (.getfield 30, 3) := by decide +kernel
theorem dX4_advance_152 : decode cX4_advance 152 = .ok (.aload_n 0, 1) := by decide +kernel
theorem dX4_advance_153 : decode cX4_advance 153 = .ok (.getfield 148, 3) := by decide +kernel
theorem dX4_advance_156 : decode cX4_advance 156 = .ok (.if_icmp .ne 54, 3) := by decide +kernel
theorem dX4_advance_159 : decode cX4_advance 159 = .ok (.aload_n 0, 1) := by decide +kernel
theorem dX4_advance_160 : decode cX4_advance 160 = .ok (.getfield 36, 3) := by decide +kernel
theorem dX4_advance_163 : decode cX4_advance 163 = .ok (.iconst 2, 1) := by decide +kernel
theorem dX4_advance_164 : decode cX4_advance 164 = .ok (.if_icmp .ne 33, 3) := by decide +kernel
theorem dX4_advance_167 : decode cX4_advance 167 = .ok (.aload_n 0, 1) := by decide +kernel
theorem dX4_advance_168 : decode cX4_advance 168 = .ok (.sipush 1000, 3) := by decide +kernel
theorem dX4_advance_171 : decode cX4_advance 171 = .ok (.aload_n 0, 1) := by decide +kernel
theorem dX4_advance_172 : decode cX4_advance 172 = .ok (.getfield 145, 3) := by decide +kernel
theorem dX4_advance_175 : decode cX4_advance 175 = .ok (.bipush 10, 2) := by decide +kernel
theorem dX4_advance_177 : decode cX4_advance 177 = .ok (.imul, 1) := by decide +kernel
theorem dX4_advance_178 : decode cX4_advance 178 = .ok (.aload_n 0, 1) := by decide +kernel
theorem dX4_advance_179 : decode cX4_advance 179 = .ok (.getfield 9, 3) := by decide +kernel
theorem dX4_advance_182 : decode cX4_advance 182 = .ok (.aload_n 0, 1) := by decide +kernel
theorem dX4_advance_183 : decode cX4_advance 183 = .ok (.getfield 30, 3) := by decide +kernel
theorem dX4_advance_186 : decode cX4_advance 186 = .ok (.baload, 1) := by decide +kernel
theorem dX4_advance_187 : decode cX4_advance 187 = .ok (.iadd, 1) := by decide +kernel
theorem dX4_advance_188 : decode cX4_advance 188 = .ok (.bipush 48, 2) := by decide +kernel
theorem dX4_advance_190 : decode cX4_advance 190 = .ok (.isub, 1) := by decide +kernel
theorem dX4_advance_191 : decode cX4_advance 191 = .ok (.invokestatic 164, 3) := by decide +kernel
theorem dX4_advance_194 : decode cX4_advance 194 = .ok (.putfield 145, 3) := by decide +kernel
theorem dX4_advance_197 : decode cX4_advance 197 = .ok (.aload_n 0, 1) := by decide +kernel
theorem dX4_advance_198 : decode cX4_advance 198 = .ok (.dup, 1) := by decide +kernel
theorem dX4_advance_199 : decode cX4_advance 199 = .ok (.getfield 30, 3) := by decide +kernel
theorem dX4_advance_202 : decode cX4_advance 202 = .ok (.iconst 1, 1) := by decide +kernel
theorem dX4_advance_203 : decode cX4_advance 203 = .ok (.iadd, 1) := by decide +kernel
theorem dX4_advance_204 : decode cX4_advance 204 = .ok (.putfield 30, 3) := by decide +kernel
theorem dX4_advance_207 : decode cX4_advance 207 = .ok (.goto (-93), 3) := by decide +kernel
theorem dX4_advance_210 : decode cX4_advance 210 = .ok (.return_, 1) := by decide +kernel
theorem dX4_parse_0 : decode cX4_parse 0 = .ok (.aload_n 1, 1) := by decide +kernel
theorem dX4_parse_1 : decode cX4_parse 1 = .ok (.invokevirtual 22, 3) := by decide +kernel
theorem dX4_parse_4 : decode cX4_parse 4 = .ok (.aload_n 0, 1) := by decide +kernel
theorem dX4_parse_5 : decode cX4_parse 5 = .ok (.iconst 0, 1) := by decide +kernel
theorem dX4_parse_6 : decode cX4_parse 6 = .ok (.putfield 27, 3) := by decide +kernel
theorem dX4_parse_9 : decode cX4_parse 9 = .ok (.aload_n 0, 1) := by decide +kernel
theorem dX4_parse_10 : decode cX4_parse 10 = .ok (.iconst (-1), 1) := by decide +kernel
theorem dX4_parse_11 : decode cX4_parse 11 = .ok (.putfield 15, 3) := by decide +kernel
theorem dX4_parse_14 : decode cX4_parse 14 = .ok (.aload_n 0, 1) := by decide +kernel
theorem dX4_parse_15 : decode cX4_parse 15 = .ok (.iconst 0, 1) := by decide +kernel
theorem dX4_parse_16 : decode cX4_parse 16 = .ok (.putfield 30, 3) := by decide +kernel
theorem dX4_parse_19 : decode cX4_parse 19 = .ok (.aload_n 0, 1) := by decide +kernel
theorem dX4_parse_20 : decode cX4_parse 20 = .ok (.invokevirtual 33, 3) := by decide +kernel
theorem dX4_parse_23 : decode cX4_parse 23 = .ok (.iconst 0, 1) := by decide +kernel
theorem dX4_parse_24 : decode cX4_parse 24 = .ok (.istore_n 2, 1) := by decide +kernel
theorem dX4_parse_25 : decode cX4_parse 25 = .ok (.iload_n 2, 1) := by decide +kernel
theorem dX4_parse_26 : decode cX4_parse 26 = .ok (.sipush 600, 3) := by decide +kernel
theorem dX4_parse_29 : decode cX4_parse 29 = .ok (.if_icmp .ge 36, 3) := by decide +kernel
theorem dX4_parse_32 : decode cX4_parse 32 = .ok (.aload_n 0, 1) := by decide +kernel
theorem dX4_parse_33 : decode cX4_parse 33 = .ok (.getfield 36, 3) := by decide +kernel
theorem dX4_parse_36 : decode cX4_parse 36 = .ok (.ifCond .eq 29, 3) := by decide +kernel
theorem dX4_parse_39 : decode cX4_parse 39 = .ok (.aload_n 0, 1) := by decide +kernel
theorem dX4_parse_40 : decode cX4_parse 40 = .ok (.aload_n 1, 1) := by decide +kernel
theorem dX4_parse_41 : decode cX4_parse 41 = .ok (.invokevirtual 39, 3) := by decide +kernel
theorem dX4_parse_44 : decode cX4_parse 44 = .ok (.ifCond .ne 5, 3) := by decide +kernel
theorem dX4_parse_47 : decode cX4_parse 47 = .ok (.iconst 0, 1) := by decide +kernel
theorem dX4_parse_48 : decode cX4_parse 48 = .ok (.ireturn, 1) := by decide +kernel
theorem dX4_parse_49 : decode cX4_parse 49 = .ok (.aload_n 1, 1) := by decide +kernel
theorem dX4_parse_50 : decode cX4_parse 50 = .ok (.dup, 1) := by decide +kernel
theorem dX4_parse_51 : decode cX4_parse 51 = .ok (.getfield 43, 3) := by decide +kernel
theorem dX4_parse_54 : decode cX4_parse 54 = .ok (.iconst 1, 1) := by decide +kernel
theorem dX4_parse_55 : decode cX4_parse 55 = .ok (.iadd, 1) := by decide +kernel
theorem dX4_parse_56 : decode cX4_parse 56 = .ok (.putfield 43, 3) := by decide +kernel
theorem dX4_parse_59 : decode cX4_parse 59 = .ok (.iinc 2 1, 3) := by decide +kernel
theorem dX4_parse_62 : decode cX4_parse 62 = .ok (.goto (-37), 3) := by decide +kernel
theorem dX4_parse_65 : decode cX4_parse 65 = .ok (.aload_n 1, 1) := by decide +kernel
theorem dX4_parse_66 : decode cX4_parse 66 = .ok (.invokevirtual 46, 3) := by decide +kernel
theorem dX4_parse_69 : decode cX4_parse 69 = .ok (.iconst 1, 1) := by decide +kernel
theorem dX4_parse_70 : decode cX4_parse 70 = .ok (.ireturn, 1) := by decide +kernel
theorem dX10_garden_0 : decode cX10_garden 0 = .ok (.aload_n 0, 1) := by decide +kernel
theorem dX10_garden_1 : decode cX10_garden 1 = .ok (.getfield 10, 3) := by decide +kernel
theorem dX10_garden_4 : decode cX10_garden 4 = .ok (.aload_n 0, 1) := by decide +kernel
theorem dX10_garden_5 : decode cX10_garden 5 = .ok (.getfield 19, 3) := by decide +kernel
theorem dX10_garden_8 : decode cX10_garden 8 = .ok (.invokevirtual 118, 3) := by decide +kernel
theorem dX10_garden_11 : decode cX10_garden 11 = .ok (.ifCond .ne 6, 3) := by decide +kernel
theorem dX10_garden_14 : decode cX10_garden 14 = .ok (.bipush (-4), 2) := by decide +kernel
theorem dX10_garden_16 : decode cX10_garden 16 = .ok (.ireturn, 1) := by decide +kernel
theorem dX10_garden_17 : decode cX10_garden 17 = .ok (.aload_n 0, 1) := by decide +kernel
theorem dX10_garden_18 : decode cX10_garden 18 = .ok (.getfield 10, 3) := by decide +kernel
theorem dX10_garden_21 : decode cX10_garden 21 = .ok (.iconst 0, 1) := by decide +kernel
theorem dX10_garden_22 : decode cX10_garden 22 = .ok (.putfield 114, 3) := by decide +kernel
theorem dX10_garden_25 : decode cX10_garden 25 = .ok (.aload_n 0, 1) := by decide +kernel
theorem dX10_garden_26 : decode cX10_garden 26 = .ok (.getfield 23, 3) := by decide +kernel
theorem dX10_garden_29 : decode cX10_garden 29 = .ok (.aload_n 0, 1) := by decide +kernel
theorem dX10_garden_30 : decode cX10_garden 30 = .ok (.getfield 19, 3) := by decide +kernel
theorem dX10_garden_33 : decode cX10_garden 33 = .ok (.invokevirtual 122, 3) := by decide +kernel
theorem dX10_garden_36 : decode cX10_garden 36 = .ok (.aload_n 0, 1) := by decide +kernel
theorem dX10_garden_37 : decode cX10_garden 37 = .ok (.invokevirtual 103, 3) := by decide +kernel
theorem dX10_garden_40 : decode cX10_garden 40 = .ok (.aload_n 0, 1) := by decide +kernel
theorem dX10_garden_41 : decode cX10_garden 41 = .ok (.getfield 23, 3) := by decide +kernel
theorem dX10_garden_44 : decode cX10_garden 44 = .ok (.getfield 126, 3) := by decide +kernel
theorem dX10_garden_47 : decode cX10_garden 47 = .ok (.ireturn, 1) := by decide +kernel

theorem lfctX10_fault_0 (p0 : Int32) (c_1 : ¬ p0 = 0) (c_2 : ¬ p0 = 1) : (-1) = (faultAns p0) := (by
  simp only [faultAns]
  repeat' split
  all_goals first | rfl | assumption | (exfalso; simp only [fa_lt, fa_le, fa_eq, fa_lt64, fa_le64, fa_eq64, Int32.toInt_toInt64, tz_0, tz_1, tz_2, tz_3, tz_4, tz_5, tz_6, tz_7, tz_8, tz_9, tz_10, tz_60, tz_m1, tl_0, tl_1, tl_2, tl_3, tl_4, tl_5, tl_6, tl_7, tl_8, tl_9, tl_10, tl_60, tl_m1] at * <;> omega))
theorem lfctX10_fault_1 (p0 : Int32) (c_1 : ¬ p0 = 0) (c_2 : p0 = 1) : (-1) = (faultAns p0) := (by
  simp only [faultAns]
  repeat' split
  all_goals first | rfl | assumption | (exfalso; simp only [fa_lt, fa_le, fa_eq, fa_lt64, fa_le64, fa_eq64, Int32.toInt_toInt64, tz_0, tz_1, tz_2, tz_3, tz_4, tz_5, tz_6, tz_7, tz_8, tz_9, tz_10, tz_60, tz_m1, tl_0, tl_1, tl_2, tl_3, tl_4, tl_5, tl_6, tl_7, tl_8, tl_9, tl_10, tl_60, tl_m1] at * <;> omega))
theorem lfctX10_fault_2 (p0 : Int32) (c_1 : p0 = 0) : 0 = (faultAns p0) := (by
  simp only [faultAns]
  repeat' split
  all_goals first | rfl | assumption | (exfalso; simp only [fa_lt, fa_le, fa_eq, fa_lt64, fa_le64, fa_eq64, Int32.toInt_toInt64, tz_0, tz_1, tz_2, tz_3, tz_4, tz_5, tz_6, tz_7, tz_8, tz_9, tz_10, tz_60, tz_m1, tl_0, tl_1, tl_2, tl_3, tl_4, tl_5, tl_6, tl_7, tl_8, tl_9, tl_10, tl_60, tl_m1] at * <;> omega))
set_option maxHeartbeats 4000000 in
set_option maxRecDepth 100000 in
theorem ctX10_fault (l : Launch) (D : va_G) (k : Nat → ClassId) (o : Nat → Nat) (p0 : Int32)  : RO l yX10_fault cX10_fault 2 (some .int) 0 D k [.ref (o 0), .int p0] [((o 0), .inr (10, [.ref (o 1), .ref (o 2), .ref (o 3), .ref (o 4), .ref (o 5), .ref (o 6), .ref (o 7), .ref (o 8), .ref (o 9), .ref (o 10), .ref (o 11), .ref (o 12), .ref (o 13), .ref (o 14)])), ((o 1), .inr (4, [.ref (o 15), .int 0, .int 0, .int (-1), .int 0, .int 0, .int 0, .int 0, .int 0]))] (Qi (fun r : Int32 => r = (faultAns p0))) := by
  refine RO.of (by decide) (Nat.le_of_ble_eq_true rfl) ?_
  intro p e s m below meth c ls A args Q S hr hlk hQ hK hP hDW hA hS hl
  have hx := S.1
  have hb := S.2.1
  have hl : lv_has ls 2 [(0, .ref (o 0)), (1, .int p0)] := hl
  refine lv_iload_n hx hb dX10_fault_0 rfl (lv_at hl 1 rfl) ?_
  refine lv_if_ne (tgt := 12) hx hb dX10_fault_1 (by decide) (fun c_1 => ?_) (fun c_1 => ?_)
  · skip
    refine lv_iload_n hx hb dX10_fault_12 rfl (lv_at hl 1 rfl) ?_
    refine lv_iconst (v := 1) hx hb dX10_fault_13 (by decide) ?_
    refine lv_icmp_ne (tgt := 27) hx hb dX10_fault_14 (by decide) (fun c_2 => ?_) (fun c_2 => ?_)
    · skip
      refine lv_iconst (v := (-1)) hx hb dX10_fault_27 (by decide) ?_
      exact x_reti S hr hlk hQ hS () (lfctX10_fault_0 p0 c_1 c_2) x_T dX10_fault_28
    · skip
      refine lv_aload_n hx hb dX10_fault_17 rfl (lv_at hl 0 rfl) ?_
      refine x_get S hK hP 0 rfl cfX10 0 lkX10_10 (by decide) rfl dX10_fault_18 ?_
      refine x_get S hK hP 1 rfl cfX4 3 lkX10_132 (by decide) rfl dX10_fault_21 ?_
      refine lv_goto (tgt := 28) hx hb dX10_fault_24 (by decide) ?_
      exact x_reti S hr hlk hQ hS () (lfctX10_fault_1 p0 c_1 c_2) x_T dX10_fault_28
  · skip
    refine lv_aload_n hx hb dX10_fault_4 rfl (lv_at hl 0 rfl) ?_
    refine x_get S hK hP 0 rfl cfX10 0 lkX10_10 (by decide) rfl dX10_fault_5 ?_
    refine x_get S hK hP 1 rfl cfX4 2 lkX10_129 (by decide) rfl dX10_fault_8 ?_
    exact x_reti S hr hlk hQ hS () (lfctX10_fault_2 p0 c_1) x_T dX10_fault_11

theorem lfctX10_end_0 (p0 : Int32) (c_1 : p0 < 0) : (-1) = (endAns p0) := (by
  simp only [endAns]
  repeat' split
  all_goals first | rfl | assumption | (exfalso; simp only [fa_lt, fa_le, fa_eq, fa_lt64, fa_le64, fa_eq64, Int32.toInt_toInt64, tz_0, tz_1, tz_2, tz_3, tz_4, tz_5, tz_6, tz_7, tz_8, tz_9, tz_10, tz_60, tz_m1, tl_0, tl_1, tl_2, tl_3, tl_4, tl_5, tl_6, tl_7, tl_8, tl_9, tl_10, tl_60, tl_m1] at * <;> omega))
theorem lfctX10_end_1 (p0 : Int32) (c_1 : ¬ p0 < 0) (c_2 : p0 ≤ 0) : p0 = (endAns p0) := (by
  simp only [endAns]
  repeat' split
  all_goals first | rfl | assumption | (exfalso; simp only [fa_lt, fa_le, fa_eq, fa_lt64, fa_le64, fa_eq64, Int32.toInt_toInt64, tz_0, tz_1, tz_2, tz_3, tz_4, tz_5, tz_6, tz_7, tz_8, tz_9, tz_10, tz_60, tz_m1, tl_0, tl_1, tl_2, tl_3, tl_4, tl_5, tl_6, tl_7, tl_8, tl_9, tl_10, tl_60, tl_m1] at * <;> omega))
theorem lfctX10_end_2 (p0 : Int32) (c_1 : ¬ p0 < 0) (c_2 : ¬ p0 ≤ 0) : (-1) = (endAns p0) := (by
  simp only [endAns]
  repeat' split
  all_goals first | rfl | assumption | (exfalso; simp only [fa_lt, fa_le, fa_eq, fa_lt64, fa_le64, fa_eq64, Int32.toInt_toInt64, tz_0, tz_1, tz_2, tz_3, tz_4, tz_5, tz_6, tz_7, tz_8, tz_9, tz_10, tz_60, tz_m1, tl_0, tl_1, tl_2, tl_3, tl_4, tl_5, tl_6, tl_7, tl_8, tl_9, tl_10, tl_60, tl_m1] at * <;> omega))
set_option maxHeartbeats 4000000 in
set_option maxRecDepth 100000 in
theorem ctX10_end (l : Launch) (D : va_G) (k : Nat → ClassId) (o : Nat → Nat) (p0 : Int32)  : MU l yX10_end cX10_end 2 (some .int) 0 D k [.ref (o 0), .int p0] [((o 0), .inr (10, [.ref (o 1), .ref (o 2), .ref (o 3), .ref (o 4), .ref (o 5), .ref (o 6), .ref (o 7), .ref (o 8), .ref (o 9), .ref (o 10), .ref (o 11), .ref (o 12), .ref (o 13), .ref (o 14)])), ((o 1), .inr (4, [.ref (o 15), .int 0, .int 0, .int (-1), .int 0, .int 0, .int 0, .int 0, .int 0]))] 0 0 (Ui D (fun (r : Int32) (u : Unit) => r = (endAns p0)) (fun _ : Unit => [])) := by
  refine MU.of (by decide) (Nat.le_of_ble_eq_true rfl) ?_
  intro p e s m below meth c ls A args Q S hr hlk hnm hQ hK hP hD hA hS hl
  have hx := S.1
  have hb := S.2.1
  have hl : lv_has ls 2 [(0, .ref (o 0)), (1, .int p0)] := hl
  refine lv_iload_n hx hb dX10_end_0 rfl (lv_at hl 1 rfl) ?_
  refine lv_if_lt (tgt := 15) hx hb dX10_end_1 (by decide) (fun c_1 => ?_) (fun c_1 => ?_)
  · skip
    refine lv_iconst (v := (-1)) hx hb dX10_end_15 (by decide) ?_
    exact x_reti S hr hlk hQ hS () (lfctX10_end_0 p0 c_1) (x_B P_nil D_nil) dX10_end_16
  · skip
    refine lv_iload_n hx hb dX10_end_4 rfl (lv_at hl 1 rfl) ?_
    refine lv_aload_n hx hb dX10_end_5 rfl (lv_at hl 0 rfl) ?_
    refine x_get S hK hP 0 rfl cfX10 0 lkX10_10 (by decide) rfl dX10_end_6 ?_
    refine x_get S hK hP 1 rfl cfX4 1 lkX10_114 (by decide) rfl dX10_end_9 ?_
    refine lv_icmp_le (tgt := 17) hx hb dX10_end_12 (by decide) (fun c_2 => ?_) (fun c_2 => ?_)
    · skip
      refine lv_aload_n hx hb dX10_end_17 rfl (lv_at hl 0 rfl) ?_
      refine x_get S hK hP 0 rfl cfX10 0 lkX10_10 (by decide) rfl dX10_end_18 ?_
      refine lv_iload_n hx hb dX10_end_21 rfl (lv_at hl 1 rfl) ?_
      refine x_put (ws' := [((o 0), .inr (10, [.ref (o 1), .ref (o 2), .ref (o 3), .ref (o 4), .ref (o 5), .ref (o 6), .ref (o 7), .ref (o 8), .ref (o 9), .ref (o 10), .ref (o 11), .ref (o 12), .ref (o 13), .ref (o 14)])), ((o 1), .inr (4, [.ref (o 15), .int p0, .int 0, .int (-1), .int 0, .int 0, .int 0, .int 0, .int 0]))]) S hK hP hD hS 1 rfl cfX4 1 lkX10_114 (by decide) rfl rfl rfl (Nat.le_of_ble_eq_true rfl) rfl dX10_end_22 (fun H locs hP hD hS => ?_)
      refine lv_iload_n hx hb dX10_end_25 rfl (lv_at hl 1 rfl) ?_
      exact x_reti S hr hlk hQ hS () (lfctX10_end_1 p0 c_1 c_2) (x_B P_nil D_nil) dX10_end_26
    · skip
      refine lv_iconst (v := (-1)) hx hb dX10_end_15 (by decide) ?_
      exact x_reti S hr hlk hQ hS () (lfctX10_end_2 p0 c_1 c_2) (x_B P_nil D_nil) dX10_end_16

set_option maxHeartbeats 4000000 in
set_option maxRecDepth 100000 in
theorem ctX4_hasRoom (l : Launch) (D : va_G) (k : Nat → ClassId) (o : Nat → Nat)  : RO l yX4_hasRoom cX4_hasRoom 1 (some .boolean) 0 D k [.ref (o 1)] [((o 1), .inr (4, [.ref (o 15), .int 0, .int 0, .int (-1), .int 0, .int 0, .int 0, .int 0, .int 0]))] (Qi (fun r : Int32 => r = 1)) := by
  refine RO.of (by decide) (Nat.le_of_ble_eq_true rfl) ?_
  intro p e s m below meth c ls A args Q S hr hlk hQ hK hP hDW hA hS hl
  have hx := S.1
  have hb := S.2.1
  have hl : lv_has ls 1 [(0, .ref (o 1))] := hl
  refine lv_aload_n hx hb dX4_hasRoom_0 rfl (lv_at hl 0 rfl) ?_
  refine x_get S hK hP 0 rfl cfX4 1 lkX4_19 (by decide) rfl dX4_hasRoom_1 ?_
  refine lv_bipush (v := 20) hx hb dX4_hasRoom_4 (by decide) ?_
  refine lv_iadd hx hb dX4_hasRoom_6 ?_
  refine x_is 20 (by decide) ?_
  refine lv_sipush (v := 600) hx hb dX4_hasRoom_7 (by decide) ?_
  refine lv_icmp_gt (tgt := 17) hx hb dX4_hasRoom_10 (by decide) (fun c_1 => absurd c_1 (by decide)) (fun c_1 => ?_)
  refine lv_iconst (v := 1) hx hb dX4_hasRoom_13 (by decide) ?_
  refine lv_goto (tgt := 18) hx hb dX4_hasRoom_14 (by decide) ?_
  exact x_retz S hr hlk hQ hS rfl () rfl x_T dX4_hasRoom_18

set_option maxHeartbeats 4000000 in
set_option maxRecDepth 100000 in
theorem ctX4_append (l : Launch) (D : va_G) (k : Nat → ClassId) (o : Nat → Nat) (p0 : Int32) (z : Nat) (f0 : Nat → Int32) (hz : z + 4 ≤ 600) : MU l yX4_append cX4_append 3 none 0 D k [.ref (o 1), .int p0] [((o 1), .inr (4, [.ref (o 15), .int (nI z), .int 0, .int (-1), .int 0, .int 0, .int 0, .int 0, .int 0])), ((o 15), .inl (k 1, 600, .inl f0))] 0 0 (Uv D (fun _ : Nat → Int32 => True) (fun u : Nat → Int32 => [((o 1), .inr (4, [.ref (o 15), .int (nI (z + 1 + 1 + 1 + 1)), .int 0, .int (-1), .int 0, .int 0, .int 0, .int 0, .int 0])), ((o 15), .inl (k 1, 600, .inl u))])) := by
  refine MU.of (by decide) (Nat.le_of_ble_eq_true rfl) ?_
  intro p e s m below meth c ls A args Q S hr hlk hnm hQ hK hP hD hA hS hl
  have hx := S.1
  have hb := S.2.1
  have hl : lv_has ls 3 [(0, .ref (o 1)), (1, .int p0)] := hl
  refine lv_bipush (v := 24) hx hb dX4_append_0 (by decide) ?_
  refine lv_istore_n (lv' := [(2, .int 24), (0, .ref (o 1)), (1, .int p0)]) hx hb dX4_append_2 rfl hl (by decide) rfl (fun ls hl => ?_)
  refine lv_iload_n hx hb dX4_append_3 rfl (lv_at hl 0 rfl) ?_
  refine lv_if_lt (tgt := 46) hx hb dX4_append_4 (by decide) (fun c_1 => absurd c_1 (by decide)) (fun c_1 => ?_)
  refine lv_aload_n hx hb dX4_append_7 rfl (lv_at hl 1 rfl) ?_
  refine x_get S hK hP 0 rfl cfX4 1 lkX4_19 (by decide) rfl dX4_append_8 ?_
  refine lv_sipush (v := 600) hx hb dX4_append_11 (by decide) ?_
  refine lv_icmp_ge (tgt := 46) hx hb dX4_append_14 (by decide) (fun c_2 => ?_) (fun c_2 => ?_)
  · skip
    have c_2 : 600 ≤ z := (ni_le (by decide) rfl (by omega) (by omega)).mp c_2
    exfalso; omega
  · skip
    have c_2 : ¬ 600 ≤ z := fun q => c_2 ((ni_le (by decide) rfl (by omega) (by omega)).mpr q)
    refine lv_aload_n hx hb dX4_append_17 rfl (lv_at hl 1 rfl) ?_
    refine x_get S hK hP 0 rfl cfX4 0 lkX4_9 (by decide) rfl dX4_append_18 ?_
    refine lv_aload_n hx hb dX4_append_21 rfl (lv_at hl 1 rfl) ?_
    refine x_get S hK hP 0 rfl cfX4 1 lkX4_19 (by decide) rfl dX4_append_22 ?_
    refine lv_iload_n hx hb dX4_append_25 rfl (lv_at hl 2 rfl) ?_
    refine lv_iload_n hx hb dX4_append_26 rfl (lv_at hl 0 rfl) ?_
    refine lv_iushr hx hb dX4_append_27 rfl ?_
    refine lv_topi (fun v_3 ev_3 => ?_)
    refine lv_i2b hx hb dX4_append_28 rfl ?_
    refine lv_topi (fun v_4 ev_4 => ?_)
    refine x_bast (ws' := fun f_5 => [((o 1), .inr (4, [.ref (o 15), .int (nI z), .int 0, .int (-1), .int 0, .int 0, .int 0, .int 0, .int 0])), ((o 15), .inl (k 1, 600, .inl f_5))]) S hK hP hD hS 1 rfl (vp_in_nI (by omega) (by decide)) (fun _ => rfl) dX4_append_29 (fun f_5 H locs ef_5 hP hD hS => ?_)
    refine lv_aload_n hx hb dX4_append_30 rfl (lv_at hl 1 rfl) ?_
    refine lv_dup hx hb dX4_append_31 rfl ?_
    refine x_get S hK hP 0 rfl cfX4 1 lkX4_19 (by decide) rfl dX4_append_32 ?_
    refine lv_iconst (v := 1) hx hb dX4_append_35 (by decide) ?_
    refine lv_iadd hx hb dX4_append_36 ?_
    refine x_is (nI (z + 1)) (ni_add rfl (by decide)) ?_
    refine x_put (ws' := [((o 1), .inr (4, [.ref (o 15), .int (nI (z + 1)), .int 0, .int (-1), .int 0, .int 0, .int 0, .int 0, .int 0])), ((o 15), .inl (k 1, 600, .inl f_5))]) S hK hP hD hS 0 rfl cfX4 1 lkX4_19 (by decide) rfl rfl rfl (Nat.le_of_ble_eq_true rfl) rfl dX4_append_37 (fun H locs hP hD hS => ?_)
    refine lv_iinc (v := 16) (lv' := [(2, .int 16), (0, .ref (o 1)), (1, .int p0)]) hx hb dX4_append_40 hl (k := 0) rfl (by decide) (by decide) rfl (fun ls hl => ?_)
    refine lv_goto (tgt := 3) hx hb dX4_append_43 (by decide) ?_
    refine lv_iload_n hx hb dX4_append_3 rfl (lv_at hl 0 rfl) ?_
    refine lv_if_lt (tgt := 46) hx hb dX4_append_4 (by decide) (fun c_6 => absurd c_6 (by decide)) (fun c_6 => ?_)
    refine lv_aload_n hx hb dX4_append_7 rfl (lv_at hl 1 rfl) ?_
    refine x_get S hK hP 0 rfl cfX4 1 lkX4_19 (by decide) rfl dX4_append_8 ?_
    refine lv_sipush (v := 600) hx hb dX4_append_11 (by decide) ?_
    refine lv_icmp_ge (tgt := 46) hx hb dX4_append_14 (by decide) (fun c_7 => ?_) (fun c_7 => ?_)
    · skip
      have c_7 : 600 ≤ z + 1 := (ni_le (by decide) rfl (by omega) (by omega)).mp c_7
      exfalso; omega
    · skip
      have c_7 : ¬ 600 ≤ z + 1 := fun q => c_7 ((ni_le (by decide) rfl (by omega) (by omega)).mpr q)
      refine lv_aload_n hx hb dX4_append_17 rfl (lv_at hl 1 rfl) ?_
      refine x_get S hK hP 0 rfl cfX4 0 lkX4_9 (by decide) rfl dX4_append_18 ?_
      refine lv_aload_n hx hb dX4_append_21 rfl (lv_at hl 1 rfl) ?_
      refine x_get S hK hP 0 rfl cfX4 1 lkX4_19 (by decide) rfl dX4_append_22 ?_
      refine lv_iload_n hx hb dX4_append_25 rfl (lv_at hl 2 rfl) ?_
      refine lv_iload_n hx hb dX4_append_26 rfl (lv_at hl 0 rfl) ?_
      refine lv_iushr hx hb dX4_append_27 rfl ?_
      refine lv_topi (fun v_8 ev_8 => ?_)
      refine lv_i2b hx hb dX4_append_28 rfl ?_
      refine lv_topi (fun v_9 ev_9 => ?_)
      refine x_bast (ws' := fun f_10 => [((o 1), .inr (4, [.ref (o 15), .int (nI (z + 1)), .int 0, .int (-1), .int 0, .int 0, .int 0, .int 0, .int 0])), ((o 15), .inl (k 1, 600, .inl f_10))]) S hK hP hD hS 1 rfl (vp_in_nI (by omega) (by decide)) (fun _ => rfl) dX4_append_29 (fun f_10 H locs ef_10 hP hD hS => ?_)
      refine lv_aload_n hx hb dX4_append_30 rfl (lv_at hl 1 rfl) ?_
      refine lv_dup hx hb dX4_append_31 rfl ?_
      refine x_get S hK hP 0 rfl cfX4 1 lkX4_19 (by decide) rfl dX4_append_32 ?_
      refine lv_iconst (v := 1) hx hb dX4_append_35 (by decide) ?_
      refine lv_iadd hx hb dX4_append_36 ?_
      refine x_is (nI (z + 1 + 1)) (ni_add rfl (by decide)) ?_
      refine x_put (ws' := [((o 1), .inr (4, [.ref (o 15), .int (nI (z + 1 + 1)), .int 0, .int (-1), .int 0, .int 0, .int 0, .int 0, .int 0])), ((o 15), .inl (k 1, 600, .inl f_10))]) S hK hP hD hS 0 rfl cfX4 1 lkX4_19 (by decide) rfl rfl rfl (Nat.le_of_ble_eq_true rfl) rfl dX4_append_37 (fun H locs hP hD hS => ?_)
      refine lv_iinc (v := 8) (lv' := [(2, .int 8), (0, .ref (o 1)), (1, .int p0)]) hx hb dX4_append_40 hl (k := 0) rfl (by decide) (by decide) rfl (fun ls hl => ?_)
      refine lv_goto (tgt := 3) hx hb dX4_append_43 (by decide) ?_
      refine lv_iload_n hx hb dX4_append_3 rfl (lv_at hl 0 rfl) ?_
      refine lv_if_lt (tgt := 46) hx hb dX4_append_4 (by decide) (fun c_11 => absurd c_11 (by decide)) (fun c_11 => ?_)
      refine lv_aload_n hx hb dX4_append_7 rfl (lv_at hl 1 rfl) ?_
      refine x_get S hK hP 0 rfl cfX4 1 lkX4_19 (by decide) rfl dX4_append_8 ?_
      refine lv_sipush (v := 600) hx hb dX4_append_11 (by decide) ?_
      refine lv_icmp_ge (tgt := 46) hx hb dX4_append_14 (by decide) (fun c_12 => ?_) (fun c_12 => ?_)
      · skip
        have c_12 : 600 ≤ z + 1 + 1 := (ni_le (by decide) rfl (by omega) (by omega)).mp c_12
        exfalso; omega
      · skip
        have c_12 : ¬ 600 ≤ z + 1 + 1 := fun q => c_12 ((ni_le (by decide) rfl (by omega) (by omega)).mpr q)
        refine lv_aload_n hx hb dX4_append_17 rfl (lv_at hl 1 rfl) ?_
        refine x_get S hK hP 0 rfl cfX4 0 lkX4_9 (by decide) rfl dX4_append_18 ?_
        refine lv_aload_n hx hb dX4_append_21 rfl (lv_at hl 1 rfl) ?_
        refine x_get S hK hP 0 rfl cfX4 1 lkX4_19 (by decide) rfl dX4_append_22 ?_
        refine lv_iload_n hx hb dX4_append_25 rfl (lv_at hl 2 rfl) ?_
        refine lv_iload_n hx hb dX4_append_26 rfl (lv_at hl 0 rfl) ?_
        refine lv_iushr hx hb dX4_append_27 rfl ?_
        refine lv_topi (fun v_13 ev_13 => ?_)
        refine lv_i2b hx hb dX4_append_28 rfl ?_
        refine lv_topi (fun v_14 ev_14 => ?_)
        refine x_bast (ws' := fun f_15 => [((o 1), .inr (4, [.ref (o 15), .int (nI (z + 1 + 1)), .int 0, .int (-1), .int 0, .int 0, .int 0, .int 0, .int 0])), ((o 15), .inl (k 1, 600, .inl f_15))]) S hK hP hD hS 1 rfl (vp_in_nI (by omega) (by decide)) (fun _ => rfl) dX4_append_29 (fun f_15 H locs ef_15 hP hD hS => ?_)
        refine lv_aload_n hx hb dX4_append_30 rfl (lv_at hl 1 rfl) ?_
        refine lv_dup hx hb dX4_append_31 rfl ?_
        refine x_get S hK hP 0 rfl cfX4 1 lkX4_19 (by decide) rfl dX4_append_32 ?_
        refine lv_iconst (v := 1) hx hb dX4_append_35 (by decide) ?_
        refine lv_iadd hx hb dX4_append_36 ?_
        refine x_is (nI (z + 1 + 1 + 1)) (ni_add rfl (by decide)) ?_
        refine x_put (ws' := [((o 1), .inr (4, [.ref (o 15), .int (nI (z + 1 + 1 + 1)), .int 0, .int (-1), .int 0, .int 0, .int 0, .int 0, .int 0])), ((o 15), .inl (k 1, 600, .inl f_15))]) S hK hP hD hS 0 rfl cfX4 1 lkX4_19 (by decide) rfl rfl rfl (Nat.le_of_ble_eq_true rfl) rfl dX4_append_37 (fun H locs hP hD hS => ?_)
        refine lv_iinc (v := 0) (lv' := [(2, .int 0), (0, .ref (o 1)), (1, .int p0)]) hx hb dX4_append_40 hl (k := 0) rfl (by decide) (by decide) rfl (fun ls hl => ?_)
        refine lv_goto (tgt := 3) hx hb dX4_append_43 (by decide) ?_
        refine lv_iload_n hx hb dX4_append_3 rfl (lv_at hl 0 rfl) ?_
        refine lv_if_lt (tgt := 46) hx hb dX4_append_4 (by decide) (fun c_16 => absurd c_16 (by decide)) (fun c_16 => ?_)
        refine lv_aload_n hx hb dX4_append_7 rfl (lv_at hl 1 rfl) ?_
        refine x_get S hK hP 0 rfl cfX4 1 lkX4_19 (by decide) rfl dX4_append_8 ?_
        refine lv_sipush (v := 600) hx hb dX4_append_11 (by decide) ?_
        refine lv_icmp_ge (tgt := 46) hx hb dX4_append_14 (by decide) (fun c_17 => ?_) (fun c_17 => ?_)
        · skip
          have c_17 : 600 ≤ z + 1 + 1 + 1 := (ni_le (by decide) rfl (by omega) (by omega)).mp c_17
          exfalso; omega
        · skip
          have c_17 : ¬ 600 ≤ z + 1 + 1 + 1 := fun q => c_17 ((ni_le (by decide) rfl (by omega) (by omega)).mpr q)
          refine lv_aload_n hx hb dX4_append_17 rfl (lv_at hl 1 rfl) ?_
          refine x_get S hK hP 0 rfl cfX4 0 lkX4_9 (by decide) rfl dX4_append_18 ?_
          refine lv_aload_n hx hb dX4_append_21 rfl (lv_at hl 1 rfl) ?_
          refine x_get S hK hP 0 rfl cfX4 1 lkX4_19 (by decide) rfl dX4_append_22 ?_
          refine lv_iload_n hx hb dX4_append_25 rfl (lv_at hl 2 rfl) ?_
          refine lv_iload_n hx hb dX4_append_26 rfl (lv_at hl 0 rfl) ?_
          refine lv_iushr hx hb dX4_append_27 rfl ?_
          refine lv_topi (fun v_18 ev_18 => ?_)
          refine lv_i2b hx hb dX4_append_28 rfl ?_
          refine lv_topi (fun v_19 ev_19 => ?_)
          refine x_bast (ws' := fun f_20 => [((o 1), .inr (4, [.ref (o 15), .int (nI (z + 1 + 1 + 1)), .int 0, .int (-1), .int 0, .int 0, .int 0, .int 0, .int 0])), ((o 15), .inl (k 1, 600, .inl f_20))]) S hK hP hD hS 1 rfl (vp_in_nI (by omega) (by decide)) (fun _ => rfl) dX4_append_29 (fun f_20 H locs ef_20 hP hD hS => ?_)
          refine lv_aload_n hx hb dX4_append_30 rfl (lv_at hl 1 rfl) ?_
          refine lv_dup hx hb dX4_append_31 rfl ?_
          refine x_get S hK hP 0 rfl cfX4 1 lkX4_19 (by decide) rfl dX4_append_32 ?_
          refine lv_iconst (v := 1) hx hb dX4_append_35 (by decide) ?_
          refine lv_iadd hx hb dX4_append_36 ?_
          refine x_is (nI (z + 1 + 1 + 1 + 1)) (ni_add rfl (by decide)) ?_
          refine x_put (ws' := [((o 1), .inr (4, [.ref (o 15), .int (nI (z + 1 + 1 + 1 + 1)), .int 0, .int (-1), .int 0, .int 0, .int 0, .int 0, .int 0])), ((o 15), .inl (k 1, 600, .inl f_20))]) S hK hP hD hS 0 rfl cfX4 1 lkX4_19 (by decide) rfl rfl rfl (Nat.le_of_ble_eq_true rfl) rfl dX4_append_37 (fun H locs hP hD hS => ?_)
          refine lv_iinc (v := (-8)) (lv' := [(2, .int (-8)), (0, .ref (o 1)), (1, .int p0)]) hx hb dX4_append_40 hl (k := 0) rfl (by decide) (by decide) rfl (fun ls hl => ?_)
          refine lv_goto (tgt := 3) hx hb dX4_append_43 (by decide) ?_
          refine lv_iload_n hx hb dX4_append_3 rfl (lv_at hl 0 rfl) ?_
          refine lv_if_lt (tgt := 46) hx hb dX4_append_4 (by decide) (fun c_21 => ?_) (fun c_21 => absurd (by decide) c_21)
          exact x_retv S hr hlk hQ hS f_20 trivial (x_B (hP.sub [0, 1] rfl) (hD.sub [0, 1] (by decide) rfl)) dX4_append_46

set_option maxHeartbeats 4000000 in
set_option maxRecDepth 100000 in
theorem ctX10_feed (l : Launch) (D : va_G) (k : Nat → ClassId) (o : Nat → Nat) (p0 : Int32) (p1 : Int32) (p2 : Int32) (p3 : Int32) (p4 : Int32)  : MU l yX10_feed cX10_feed 6 (some .int) 1 D k [.ref (o 0), .int p0, .int p1, .int p2, .int p3, .int p4] [((o 0), .inr (10, [.ref (o 1), .ref (o 2), .ref (o 3), .ref (o 4), .ref (o 5), .ref (o 6), .ref (o 7), .ref (o 8), .ref (o 9), .ref (o 10), .ref (o 11), .ref (o 12), .ref (o 13), .ref (o 14)])), ((o 1), .inr (4, [.ref (o 15), .int 0, .int 0, .int (-1), .int 0, .int 0, .int 0, .int 0, .int 0])), ((o 15), .inl (k 1, 600, .inl (fun _ => 0)))] 0 0 (Ui D (fun (r : Int32) (u : Unit) => r = 20) (fun _ : Unit => [])) := by
  refine MU.of (by decide) (Nat.le_of_ble_eq_true rfl) ?_
  intro p e s m below meth c ls A args Q S hr hlk hnm hQ hK hP hD hA hS hl
  have hx := S.1
  have hb := S.2.1
  have hl : lv_has ls 6 [(0, .ref (o 0)), (1, .int p0), (2, .int p1), (3, .int p2), (4, .int p3), (5, .int p4)] := hl
  refine lv_aload_n hx hb dX10_feed_0 rfl (lv_at hl 0 rfl) ?_
  refine x_get S hK hP 0 rfl cfX10 0 lkX10_10 (by decide) rfl dX10_feed_1 ?_
  refine x_roVi (As := []) S hK hP hS hA hl mwX4_hasRoom lkX10_106 (ctX4_hasRoom l D k o ) [1] rfl ((hD.sub [1] (by decide) rfl).weaken (fun _ _ _ _ => trivial)) rfl rfl rfl rfl rfl ⟨Nat.le_of_ble_eq_true rfl, Nat.le_of_ble_eq_true rfl, Nat.le_of_ble_eq_true rfl⟩ dX10_feed_4 ⟨Nat.le_of_ble_eq_true rfl, Nat.le_of_ble_eq_true rfl⟩ (fun r_1 H locs hr_1 hP hS => ?_)
  subst hr_1
  refine lv_if_ne (tgt := 12) hx hb dX10_feed_7 (by decide) (fun c_2 => ?_) (fun c_2 => absurd c_2 (by decide))
  refine lv_aload_n hx hb dX10_feed_12 rfl (lv_at hl 0 rfl) ?_
  refine x_get S hK hP 0 rfl cfX10 0 lkX10_10 (by decide) rfl dX10_feed_13 ?_
  refine lv_iload_n hx hb dX10_feed_16 rfl (lv_at hl 1 rfl) ?_
  refine x_muVv (wr := [((o 0), .inr (10, [.ref (o 1), .ref (o 2), .ref (o 3), .ref (o 4), .ref (o 5), .ref (o 6), .ref (o 7), .ref (o 8), .ref (o 9), .ref (o 10), .ref (o 11), .ref (o 12), .ref (o 13), .ref (o 14)]))]) (As := [.int p0]) S hK hP hD hS hA hl mwX4_append lkX10_110 (ctX4_append l D k o p0 0 (fun _ => 0) (by omega)) [1, 2] [0] rfl rfl (by decide) (by decide) (by decide) rfl rfl rfl rfl rfl ⟨Nat.le_of_ble_eq_true rfl, Nat.le_of_ble_eq_true rfl, Nat.le_of_ble_eq_true rfl⟩ dX10_feed_17 ⟨Nat.le_of_ble_eq_true rfl, Nat.le_of_ble_eq_true rfl⟩ (fun u_4 H locs hr_3 hP hD hS => ?_)
  have hP : va_P D vwCl [((o 0), .inr (10, [.ref (o 1), .ref (o 2), .ref (o 3), .ref (o 4), .ref (o 5), .ref (o 6), .ref (o 7), .ref (o 8), .ref (o 9), .ref (o 10), .ref (o 11), .ref (o 12), .ref (o 13), .ref (o 14)])), ((o 1), .inr (4, [.ref (o 15), .int (nI (0 + 1 + 1 + 1 + 1)), .int 0, .int (-1), .int 0, .int 0, .int 0, .int 0, .int 0])), ((o 15), .inl (k 1, 600, .inl u_4))] H := hP
  have hD : va_D A [((o 0), .inr (10, [.ref (o 1), .ref (o 2), .ref (o 3), .ref (o 4), .ref (o 5), .ref (o 6), .ref (o 7), .ref (o 8), .ref (o 9), .ref (o 10), .ref (o 11), .ref (o 12), .ref (o 13), .ref (o 14)])), ((o 1), .inr (4, [.ref (o 15), .int (nI (0 + 1 + 1 + 1 + 1)), .int 0, .int (-1), .int 0, .int 0, .int 0, .int 0, .int 0])), ((o 15), .inl (k 1, 600, .inl u_4))] := hD
  refine lv_aload_n hx hb dX10_feed_20 rfl (lv_at hl 0 rfl) ?_
  refine x_get S hK hP 0 rfl cfX10 0 lkX10_10 (by decide) rfl dX10_feed_21 ?_
  refine lv_iload_n hx hb dX10_feed_24 rfl (lv_at hl 2 rfl) ?_
  refine x_muVv (wr := [((o 0), .inr (10, [.ref (o 1), .ref (o 2), .ref (o 3), .ref (o 4), .ref (o 5), .ref (o 6), .ref (o 7), .ref (o 8), .ref (o 9), .ref (o 10), .ref (o 11), .ref (o 12), .ref (o 13), .ref (o 14)]))]) (As := [.int p1]) S hK hP hD hS hA hl mwX4_append lkX10_110 (ctX4_append l D k o p1 (0 + 1 + 1 + 1 + 1) u_4 (by omega)) [1, 2] [0] rfl rfl (by decide) (by decide) (by decide) rfl rfl rfl rfl rfl ⟨Nat.le_of_ble_eq_true rfl, Nat.le_of_ble_eq_true rfl, Nat.le_of_ble_eq_true rfl⟩ dX10_feed_25 ⟨Nat.le_of_ble_eq_true rfl, Nat.le_of_ble_eq_true rfl⟩ (fun u_6 H locs hr_5 hP hD hS => ?_)
  have hP : va_P D vwCl [((o 0), .inr (10, [.ref (o 1), .ref (o 2), .ref (o 3), .ref (o 4), .ref (o 5), .ref (o 6), .ref (o 7), .ref (o 8), .ref (o 9), .ref (o 10), .ref (o 11), .ref (o 12), .ref (o 13), .ref (o 14)])), ((o 1), .inr (4, [.ref (o 15), .int (nI (0 + 1 + 1 + 1 + 1 + 1 + 1 + 1 + 1)), .int 0, .int (-1), .int 0, .int 0, .int 0, .int 0, .int 0])), ((o 15), .inl (k 1, 600, .inl u_6))] H := hP
  have hD : va_D A [((o 0), .inr (10, [.ref (o 1), .ref (o 2), .ref (o 3), .ref (o 4), .ref (o 5), .ref (o 6), .ref (o 7), .ref (o 8), .ref (o 9), .ref (o 10), .ref (o 11), .ref (o 12), .ref (o 13), .ref (o 14)])), ((o 1), .inr (4, [.ref (o 15), .int (nI (0 + 1 + 1 + 1 + 1 + 1 + 1 + 1 + 1)), .int 0, .int (-1), .int 0, .int 0, .int 0, .int 0, .int 0])), ((o 15), .inl (k 1, 600, .inl u_6))] := hD
  refine lv_aload_n hx hb dX10_feed_28 rfl (lv_at hl 0 rfl) ?_
  refine x_get S hK hP 0 rfl cfX10 0 lkX10_10 (by decide) rfl dX10_feed_29 ?_
  refine lv_iload_n hx hb dX10_feed_32 rfl (lv_at hl 3 rfl) ?_
  refine x_muVv (wr := [((o 0), .inr (10, [.ref (o 1), .ref (o 2), .ref (o 3), .ref (o 4), .ref (o 5), .ref (o 6), .ref (o 7), .ref (o 8), .ref (o 9), .ref (o 10), .ref (o 11), .ref (o 12), .ref (o 13), .ref (o 14)]))]) (As := [.int p2]) S hK hP hD hS hA hl mwX4_append lkX10_110 (ctX4_append l D k o p2 (0 + 1 + 1 + 1 + 1 + 1 + 1 + 1 + 1) u_6 (by omega)) [1, 2] [0] rfl rfl (by decide) (by decide) (by decide) rfl rfl rfl rfl rfl ⟨Nat.le_of_ble_eq_true rfl, Nat.le_of_ble_eq_true rfl, Nat.le_of_ble_eq_true rfl⟩ dX10_feed_33 ⟨Nat.le_of_ble_eq_true rfl, Nat.le_of_ble_eq_true rfl⟩ (fun u_8 H locs hr_7 hP hD hS => ?_)
  have hP : va_P D vwCl [((o 0), .inr (10, [.ref (o 1), .ref (o 2), .ref (o 3), .ref (o 4), .ref (o 5), .ref (o 6), .ref (o 7), .ref (o 8), .ref (o 9), .ref (o 10), .ref (o 11), .ref (o 12), .ref (o 13), .ref (o 14)])), ((o 1), .inr (4, [.ref (o 15), .int (nI (0 + 1 + 1 + 1 + 1 + 1 + 1 + 1 + 1 + 1 + 1 + 1 + 1)), .int 0, .int (-1), .int 0, .int 0, .int 0, .int 0, .int 0])), ((o 15), .inl (k 1, 600, .inl u_8))] H := hP
  have hD : va_D A [((o 0), .inr (10, [.ref (o 1), .ref (o 2), .ref (o 3), .ref (o 4), .ref (o 5), .ref (o 6), .ref (o 7), .ref (o 8), .ref (o 9), .ref (o 10), .ref (o 11), .ref (o 12), .ref (o 13), .ref (o 14)])), ((o 1), .inr (4, [.ref (o 15), .int (nI (0 + 1 + 1 + 1 + 1 + 1 + 1 + 1 + 1 + 1 + 1 + 1 + 1)), .int 0, .int (-1), .int 0, .int 0, .int 0, .int 0, .int 0])), ((o 15), .inl (k 1, 600, .inl u_8))] := hD
  refine lv_aload_n hx hb dX10_feed_36 rfl (lv_at hl 0 rfl) ?_
  refine x_get S hK hP 0 rfl cfX10 0 lkX10_10 (by decide) rfl dX10_feed_37 ?_
  refine lv_iload hx hb dX10_feed_40 (lv_at hl 4 rfl) ?_
  refine x_muVv (wr := [((o 0), .inr (10, [.ref (o 1), .ref (o 2), .ref (o 3), .ref (o 4), .ref (o 5), .ref (o 6), .ref (o 7), .ref (o 8), .ref (o 9), .ref (o 10), .ref (o 11), .ref (o 12), .ref (o 13), .ref (o 14)]))]) (As := [.int p3]) S hK hP hD hS hA hl mwX4_append lkX10_110 (ctX4_append l D k o p3 (0 + 1 + 1 + 1 + 1 + 1 + 1 + 1 + 1 + 1 + 1 + 1 + 1) u_8 (by omega)) [1, 2] [0] rfl rfl (by decide) (by decide) (by decide) rfl rfl rfl rfl rfl ⟨Nat.le_of_ble_eq_true rfl, Nat.le_of_ble_eq_true rfl, Nat.le_of_ble_eq_true rfl⟩ dX10_feed_42 ⟨Nat.le_of_ble_eq_true rfl, Nat.le_of_ble_eq_true rfl⟩ (fun u_10 H locs hr_9 hP hD hS => ?_)
  have hP : va_P D vwCl [((o 0), .inr (10, [.ref (o 1), .ref (o 2), .ref (o 3), .ref (o 4), .ref (o 5), .ref (o 6), .ref (o 7), .ref (o 8), .ref (o 9), .ref (o 10), .ref (o 11), .ref (o 12), .ref (o 13), .ref (o 14)])), ((o 1), .inr (4, [.ref (o 15), .int (nI (0 + 1 + 1 + 1 + 1 + 1 + 1 + 1 + 1 + 1 + 1 + 1 + 1 + 1 + 1 + 1 + 1)), .int 0, .int (-1), .int 0, .int 0, .int 0, .int 0, .int 0])), ((o 15), .inl (k 1, 600, .inl u_10))] H := hP
  have hD : va_D A [((o 0), .inr (10, [.ref (o 1), .ref (o 2), .ref (o 3), .ref (o 4), .ref (o 5), .ref (o 6), .ref (o 7), .ref (o 8), .ref (o 9), .ref (o 10), .ref (o 11), .ref (o 12), .ref (o 13), .ref (o 14)])), ((o 1), .inr (4, [.ref (o 15), .int (nI (0 + 1 + 1 + 1 + 1 + 1 + 1 + 1 + 1 + 1 + 1 + 1 + 1 + 1 + 1 + 1 + 1)), .int 0, .int (-1), .int 0, .int 0, .int 0, .int 0, .int 0])), ((o 15), .inl (k 1, 600, .inl u_10))] := hD
  refine lv_aload_n hx hb dX10_feed_45 rfl (lv_at hl 0 rfl) ?_
  refine x_get S hK hP 0 rfl cfX10 0 lkX10_10 (by decide) rfl dX10_feed_46 ?_
  refine lv_iload hx hb dX10_feed_49 (lv_at hl 5 rfl) ?_
  refine x_muVv (wr := [((o 0), .inr (10, [.ref (o 1), .ref (o 2), .ref (o 3), .ref (o 4), .ref (o 5), .ref (o 6), .ref (o 7), .ref (o 8), .ref (o 9), .ref (o 10), .ref (o 11), .ref (o 12), .ref (o 13), .ref (o 14)]))]) (As := [.int p4]) S hK hP hD hS hA hl mwX4_append lkX10_110 (ctX4_append l D k o p4 (0 + 1 + 1 + 1 + 1 + 1 + 1 + 1 + 1 + 1 + 1 + 1 + 1 + 1 + 1 + 1 + 1) u_10 (by omega)) [1, 2] [0] rfl rfl (by decide) (by decide) (by decide) rfl rfl rfl rfl rfl ⟨Nat.le_of_ble_eq_true rfl, Nat.le_of_ble_eq_true rfl, Nat.le_of_ble_eq_true rfl⟩ dX10_feed_51 ⟨Nat.le_of_ble_eq_true rfl, Nat.le_of_ble_eq_true rfl⟩ (fun u_12 H locs hr_11 hP hD hS => ?_)
  have hP : va_P D vwCl [((o 0), .inr (10, [.ref (o 1), .ref (o 2), .ref (o 3), .ref (o 4), .ref (o 5), .ref (o 6), .ref (o 7), .ref (o 8), .ref (o 9), .ref (o 10), .ref (o 11), .ref (o 12), .ref (o 13), .ref (o 14)])), ((o 1), .inr (4, [.ref (o 15), .int (nI (0 + 1 + 1 + 1 + 1 + 1 + 1 + 1 + 1 + 1 + 1 + 1 + 1 + 1 + 1 + 1 + 1 + 1 + 1 + 1 + 1)), .int 0, .int (-1), .int 0, .int 0, .int 0, .int 0, .int 0])), ((o 15), .inl (k 1, 600, .inl u_12))] H := hP
  have hD : va_D A [((o 0), .inr (10, [.ref (o 1), .ref (o 2), .ref (o 3), .ref (o 4), .ref (o 5), .ref (o 6), .ref (o 7), .ref (o 8), .ref (o 9), .ref (o 10), .ref (o 11), .ref (o 12), .ref (o 13), .ref (o 14)])), ((o 1), .inr (4, [.ref (o 15), .int (nI (0 + 1 + 1 + 1 + 1 + 1 + 1 + 1 + 1 + 1 + 1 + 1 + 1 + 1 + 1 + 1 + 1 + 1 + 1 + 1 + 1)), .int 0, .int (-1), .int 0, .int 0, .int 0, .int 0, .int 0])), ((o 15), .inl (k 1, 600, .inl u_12))] := hD
  refine lv_aload_n hx hb dX10_feed_54 rfl (lv_at hl 0 rfl) ?_
  refine x_get S hK hP 0 rfl cfX10 0 lkX10_10 (by decide) rfl dX10_feed_55 ?_
  refine x_get S hK hP 1 rfl cfX4 1 lkX10_114 (by decide) rfl dX10_feed_58 ?_
  exact x_reti S hr hlk hQ hS () (by decide) (x_B P_nil D_nil) dX10_feed_61

set_option maxHeartbeats 4000000 in
set_option maxRecDepth 100000 in
theorem ctX6_isEmpty (l : Launch) (D : va_G) (k : Nat → ClassId) (o : Nat → Nat) (j : Nat) (hj : j < 4) : RO l yX6_isEmpty cX6_isEmpty 2 (some .boolean) 0 D k [.ref (o 10), .int (nI j)] [((o 10), .inr (6, [.ref (o 77), .ref (o 78), .ref (o 79)])), ((o 79), .inl (k 0, 4, .inl m1))] (Qi (fun r : Int32 => r = 1)) := by
  refine RO.of (by decide) (Nat.le_of_ble_eq_true rfl) ?_
  intro p e s m below meth c ls A args Q S hr hlk hQ hK hP hDW hA hS hl
  have hx := S.1
  have hb := S.2.1
  have hl : lv_has ls 2 [(0, .ref (o 10)), (1, .int (nI j))] := hl
  refine lv_aload_n hx hb dX6_isEmpty_0 rfl (lv_at hl 0 rfl) ?_
  refine x_get S hK hP 0 rfl cfX6 2 lkX6_20 (by decide) rfl dX6_isEmpty_1 ?_
  refine lv_iload_n hx hb dX6_isEmpty_4 rfl (lv_at hl 1 rfl) ?_
  refine x_iald S hK hP 1 rfl (vp_in_nI (by omega) (by decide)) dX6_isEmpty_5 ?_
  refine x_is (-1) (by rw [nI_clamp (by omega)]; exact m1_at (by omega)) ?_
  refine lv_iconst (v := (-1)) hx hb dX6_isEmpty_6 (by decide) ?_
  refine lv_icmp_ne (tgt := 14) hx hb dX6_isEmpty_7 (by decide) (fun c_1 => absurd (by decide) c_1) (fun c_1 => ?_)
  refine lv_iconst (v := 1) hx hb dX6_isEmpty_10 (by decide) ?_
  refine lv_goto (tgt := 15) hx hb dX6_isEmpty_11 (by decide) ?_
  exact x_retz S hr hlk hQ hS rfl () rfl x_T dX6_isEmpty_15

set_option maxHeartbeats 4000000 in
set_option maxRecDepth 100000 in
theorem ctX6_filled (l : Launch) (D : va_G) (k : Nat → ClassId) (o : Nat → Nat)  : RO l yX6_filled cX6_filled 3 (some .int) 1 D k [.ref (o 10)] [((o 10), .inr (6, [.ref (o 77), .ref (o 78), .ref (o 79)])), ((o 79), .inl (k 0, 4, .inl m1))] (Qi (fun r : Int32 => r = 0)) := by
  refine RO.of (by decide) (Nat.le_of_ble_eq_true rfl) ?_
  intro p e s m below meth c ls A args Q S hr hlk hQ hK hP hDW hA hS hl
  have hx := S.1
  have hb := S.2.1
  have hl : lv_has ls 3 [(0, .ref (o 10))] := hl
  refine lv_iconst (v := 0) hx hb dX6_filled_0 (by decide) ?_
  refine lv_istore_n (lv' := [(1, .int 0), (0, .ref (o 10))]) hx hb dX6_filled_1 rfl hl (by decide) rfl (fun ls hl => ?_)
  refine lv_iconst (v := 0) hx hb dX6_filled_2 (by decide) ?_
  refine lv_istore_n (lv' := [(2, .int 0), (1, .int 0), (0, .ref (o 10))]) hx hb dX6_filled_3 rfl hl (by decide) rfl (fun ls hl => ?_)
  refine lv_iload_n hx hb dX6_filled_4 rfl (lv_at hl 0 rfl) ?_
  refine lv_iconst (v := 4) hx hb dX6_filled_5 (by decide) ?_
  refine lv_icmp_ge (tgt := 31) hx hb dX6_filled_6 (by decide) (fun c_1 => absurd c_1 (by decide)) (fun c_1 => ?_)
  refine lv_iload_n hx hb dX6_filled_9 rfl (lv_at hl 1 rfl) ?_
  refine lv_aload_n hx hb dX6_filled_10 rfl (lv_at hl 2 rfl) ?_
  refine lv_iload_n hx hb dX6_filled_11 rfl (lv_at hl 0 rfl) ?_
  refine x_roVi (As := [.int 0]) S hK hP hS hA hl mwX6_isEmpty lkX6_23 (ctX6_isEmpty l D k o 0 (by omega)) [0, 1] rfl (hDW.sub [0, 1] (by decide) rfl) rfl rfl rfl rfl rfl ⟨Nat.le_of_ble_eq_true rfl, Nat.le_of_ble_eq_true rfl, Nat.le_of_ble_eq_true rfl⟩ dX6_filled_12 ⟨Nat.le_of_ble_eq_true rfl, Nat.le_of_ble_eq_true rfl⟩ (fun r_2 H locs hr_2 hP hS => ?_)
  subst hr_2
  refine lv_if_eq (tgt := 22) hx hb dX6_filled_15 (by decide) (fun c_3 => absurd c_3 (by decide)) (fun c_3 => ?_)
  refine lv_iconst (v := 0) hx hb dX6_filled_18 (by decide) ?_
  refine lv_goto (tgt := 23) hx hb dX6_filled_19 (by decide) ?_
  refine lv_iadd hx hb dX6_filled_23 ?_
  refine x_is 0 (by decide) ?_
  refine lv_istore_n (lv' := [(1, .int 0), (2, .int 0), (0, .ref (o 10))]) hx hb dX6_filled_24 rfl hl (by decide) rfl (fun ls hl => ?_)
  refine lv_iinc (v := 1) (lv' := [(2, .int 1), (1, .int 0), (0, .ref (o 10))]) hx hb dX6_filled_25 hl (k := 1) rfl (by decide) (by decide) rfl (fun ls hl => ?_)
  refine lv_goto (tgt := 4) hx hb dX6_filled_28 (by decide) ?_
  refine lv_iload_n hx hb dX6_filled_4 rfl (lv_at hl 0 rfl) ?_
  refine lv_iconst (v := 4) hx hb dX6_filled_5 (by decide) ?_
  refine lv_icmp_ge (tgt := 31) hx hb dX6_filled_6 (by decide) (fun c_4 => absurd c_4 (by decide)) (fun c_4 => ?_)
  refine lv_iload_n hx hb dX6_filled_9 rfl (lv_at hl 1 rfl) ?_
  refine lv_aload_n hx hb dX6_filled_10 rfl (lv_at hl 2 rfl) ?_
  refine lv_iload_n hx hb dX6_filled_11 rfl (lv_at hl 0 rfl) ?_
  refine x_roVi (As := [.int 1]) S hK hP hS hA hl mwX6_isEmpty lkX6_23 (ctX6_isEmpty l D k o 1 (by omega)) [0, 1] rfl (hDW.sub [0, 1] (by decide) rfl) rfl rfl rfl rfl rfl ⟨Nat.le_of_ble_eq_true rfl, Nat.le_of_ble_eq_true rfl, Nat.le_of_ble_eq_true rfl⟩ dX6_filled_12 ⟨Nat.le_of_ble_eq_true rfl, Nat.le_of_ble_eq_true rfl⟩ (fun r_5 H locs hr_5 hP hS => ?_)
  subst hr_5
  refine lv_if_eq (tgt := 22) hx hb dX6_filled_15 (by decide) (fun c_6 => absurd c_6 (by decide)) (fun c_6 => ?_)
  refine lv_iconst (v := 0) hx hb dX6_filled_18 (by decide) ?_
  refine lv_goto (tgt := 23) hx hb dX6_filled_19 (by decide) ?_
  refine lv_iadd hx hb dX6_filled_23 ?_
  refine x_is 0 (by decide) ?_
  refine lv_istore_n (lv' := [(1, .int 0), (2, .int 1), (0, .ref (o 10))]) hx hb dX6_filled_24 rfl hl (by decide) rfl (fun ls hl => ?_)
  refine lv_iinc (v := 2) (lv' := [(2, .int 2), (1, .int 0), (0, .ref (o 10))]) hx hb dX6_filled_25 hl (k := 1) rfl (by decide) (by decide) rfl (fun ls hl => ?_)
  refine lv_goto (tgt := 4) hx hb dX6_filled_28 (by decide) ?_
  refine lv_iload_n hx hb dX6_filled_4 rfl (lv_at hl 0 rfl) ?_
  refine lv_iconst (v := 4) hx hb dX6_filled_5 (by decide) ?_
  refine lv_icmp_ge (tgt := 31) hx hb dX6_filled_6 (by decide) (fun c_7 => absurd c_7 (by decide)) (fun c_7 => ?_)
  refine lv_iload_n hx hb dX6_filled_9 rfl (lv_at hl 1 rfl) ?_
  refine lv_aload_n hx hb dX6_filled_10 rfl (lv_at hl 2 rfl) ?_
  refine lv_iload_n hx hb dX6_filled_11 rfl (lv_at hl 0 rfl) ?_
  refine x_roVi (As := [.int 2]) S hK hP hS hA hl mwX6_isEmpty lkX6_23 (ctX6_isEmpty l D k o 2 (by omega)) [0, 1] rfl (hDW.sub [0, 1] (by decide) rfl) rfl rfl rfl rfl rfl ⟨Nat.le_of_ble_eq_true rfl, Nat.le_of_ble_eq_true rfl, Nat.le_of_ble_eq_true rfl⟩ dX6_filled_12 ⟨Nat.le_of_ble_eq_true rfl, Nat.le_of_ble_eq_true rfl⟩ (fun r_8 H locs hr_8 hP hS => ?_)
  subst hr_8
  refine lv_if_eq (tgt := 22) hx hb dX6_filled_15 (by decide) (fun c_9 => absurd c_9 (by decide)) (fun c_9 => ?_)
  refine lv_iconst (v := 0) hx hb dX6_filled_18 (by decide) ?_
  refine lv_goto (tgt := 23) hx hb dX6_filled_19 (by decide) ?_
  refine lv_iadd hx hb dX6_filled_23 ?_
  refine x_is 0 (by decide) ?_
  refine lv_istore_n (lv' := [(1, .int 0), (2, .int 2), (0, .ref (o 10))]) hx hb dX6_filled_24 rfl hl (by decide) rfl (fun ls hl => ?_)
  refine lv_iinc (v := 3) (lv' := [(2, .int 3), (1, .int 0), (0, .ref (o 10))]) hx hb dX6_filled_25 hl (k := 1) rfl (by decide) (by decide) rfl (fun ls hl => ?_)
  refine lv_goto (tgt := 4) hx hb dX6_filled_28 (by decide) ?_
  refine lv_iload_n hx hb dX6_filled_4 rfl (lv_at hl 0 rfl) ?_
  refine lv_iconst (v := 4) hx hb dX6_filled_5 (by decide) ?_
  refine lv_icmp_ge (tgt := 31) hx hb dX6_filled_6 (by decide) (fun c_10 => absurd c_10 (by decide)) (fun c_10 => ?_)
  refine lv_iload_n hx hb dX6_filled_9 rfl (lv_at hl 1 rfl) ?_
  refine lv_aload_n hx hb dX6_filled_10 rfl (lv_at hl 2 rfl) ?_
  refine lv_iload_n hx hb dX6_filled_11 rfl (lv_at hl 0 rfl) ?_
  refine x_roVi (As := [.int 3]) S hK hP hS hA hl mwX6_isEmpty lkX6_23 (ctX6_isEmpty l D k o 3 (by omega)) [0, 1] rfl (hDW.sub [0, 1] (by decide) rfl) rfl rfl rfl rfl rfl ⟨Nat.le_of_ble_eq_true rfl, Nat.le_of_ble_eq_true rfl, Nat.le_of_ble_eq_true rfl⟩ dX6_filled_12 ⟨Nat.le_of_ble_eq_true rfl, Nat.le_of_ble_eq_true rfl⟩ (fun r_11 H locs hr_11 hP hS => ?_)
  subst hr_11
  refine lv_if_eq (tgt := 22) hx hb dX6_filled_15 (by decide) (fun c_12 => absurd c_12 (by decide)) (fun c_12 => ?_)
  refine lv_iconst (v := 0) hx hb dX6_filled_18 (by decide) ?_
  refine lv_goto (tgt := 23) hx hb dX6_filled_19 (by decide) ?_
  refine lv_iadd hx hb dX6_filled_23 ?_
  refine x_is 0 (by decide) ?_
  refine lv_istore_n (lv' := [(1, .int 0), (2, .int 3), (0, .ref (o 10))]) hx hb dX6_filled_24 rfl hl (by decide) rfl (fun ls hl => ?_)
  refine lv_iinc (v := 4) (lv' := [(2, .int 4), (1, .int 0), (0, .ref (o 10))]) hx hb dX6_filled_25 hl (k := 1) rfl (by decide) (by decide) rfl (fun ls hl => ?_)
  refine lv_goto (tgt := 4) hx hb dX6_filled_28 (by decide) ?_
  refine lv_iload_n hx hb dX6_filled_4 rfl (lv_at hl 0 rfl) ?_
  refine lv_iconst (v := 4) hx hb dX6_filled_5 (by decide) ?_
  refine lv_icmp_ge (tgt := 31) hx hb dX6_filled_6 (by decide) (fun c_13 => ?_) (fun c_13 => absurd (by decide) c_13)
  refine lv_iload_n hx hb dX6_filled_31 rfl (lv_at hl 1 rfl) ?_
  exact x_reti S hr hlk hQ hS () rfl x_T dX6_filled_32

theorem lfctX10_count_0 (p0 : Int32) (c_1 : p0 = 0) : 0 = (countAns p0) := (by
  simp only [countAns]
  repeat' split
  all_goals first | rfl | assumption | (exfalso; simp only [fa_lt, fa_le, fa_eq, fa_lt64, fa_le64, fa_eq64, Int32.toInt_toInt64, tz_0, tz_1, tz_2, tz_3, tz_4, tz_5, tz_6, tz_7, tz_8, tz_9, tz_10, tz_60, tz_m1, tl_0, tl_1, tl_2, tl_3, tl_4, tl_5, tl_6, tl_7, tl_8, tl_9, tl_10, tl_60, tl_m1] at * <;> omega))
theorem lfctX10_count_1 (p0 : Int32) (c_2 : p0 = 1) : 0 = (countAns p0) := (by
  simp only [countAns]
  repeat' split
  all_goals first | rfl | assumption | (exfalso; simp only [fa_lt, fa_le, fa_eq, fa_lt64, fa_le64, fa_eq64, Int32.toInt_toInt64, tz_0, tz_1, tz_2, tz_3, tz_4, tz_5, tz_6, tz_7, tz_8, tz_9, tz_10, tz_60, tz_m1, tl_0, tl_1, tl_2, tl_3, tl_4, tl_5, tl_6, tl_7, tl_8, tl_9, tl_10, tl_60, tl_m1] at * <;> omega))
theorem lfctX10_count_2 (p0 : Int32) (c_3 : p0 = 2) : 0 = (countAns p0) := (by
  simp only [countAns]
  repeat' split
  all_goals first | rfl | assumption | (exfalso; simp only [fa_lt, fa_le, fa_eq, fa_lt64, fa_le64, fa_eq64, Int32.toInt_toInt64, tz_0, tz_1, tz_2, tz_3, tz_4, tz_5, tz_6, tz_7, tz_8, tz_9, tz_10, tz_60, tz_m1, tl_0, tl_1, tl_2, tl_3, tl_4, tl_5, tl_6, tl_7, tl_8, tl_9, tl_10, tl_60, tl_m1] at * <;> omega))
theorem lfctX10_count_3 (p0 : Int32) (c_4 : p0 = 3) : 0 = (countAns p0) := (by
  simp only [countAns]
  repeat' split
  all_goals first | rfl | assumption | (exfalso; simp only [fa_lt, fa_le, fa_eq, fa_lt64, fa_le64, fa_eq64, Int32.toInt_toInt64, tz_0, tz_1, tz_2, tz_3, tz_4, tz_5, tz_6, tz_7, tz_8, tz_9, tz_10, tz_60, tz_m1, tl_0, tl_1, tl_2, tl_3, tl_4, tl_5, tl_6, tl_7, tl_8, tl_9, tl_10, tl_60, tl_m1] at * <;> omega))
theorem lfctX10_count_4 (p0 : Int32) (c_5 : p0 = 4) : 0 = (countAns p0) := (by
  simp only [countAns]
  repeat' split
  all_goals first | rfl | assumption | (exfalso; simp only [fa_lt, fa_le, fa_eq, fa_lt64, fa_le64, fa_eq64, Int32.toInt_toInt64, tz_0, tz_1, tz_2, tz_3, tz_4, tz_5, tz_6, tz_7, tz_8, tz_9, tz_10, tz_60, tz_m1, tl_0, tl_1, tl_2, tl_3, tl_4, tl_5, tl_6, tl_7, tl_8, tl_9, tl_10, tl_60, tl_m1] at * <;> omega))
theorem lfctX10_count_5 (p0 : Int32) (c_6 : p0 = 5) : 0 = (countAns p0) := (by
  simp only [countAns]
  repeat' split
  all_goals first | rfl | assumption | (exfalso; simp only [fa_lt, fa_le, fa_eq, fa_lt64, fa_le64, fa_eq64, Int32.toInt_toInt64, tz_0, tz_1, tz_2, tz_3, tz_4, tz_5, tz_6, tz_7, tz_8, tz_9, tz_10, tz_60, tz_m1, tl_0, tl_1, tl_2, tl_3, tl_4, tl_5, tl_6, tl_7, tl_8, tl_9, tl_10, tl_60, tl_m1] at * <;> omega))
theorem lfctX10_count_6 (p0 : Int32) (c_7 : p0 = 6) : 0 = (countAns p0) := (by
  simp only [countAns]
  repeat' split
  all_goals first | rfl | assumption | (exfalso; simp only [fa_lt, fa_le, fa_eq, fa_lt64, fa_le64, fa_eq64, Int32.toInt_toInt64, tz_0, tz_1, tz_2, tz_3, tz_4, tz_5, tz_6, tz_7, tz_8, tz_9, tz_10, tz_60, tz_m1, tl_0, tl_1, tl_2, tl_3, tl_4, tl_5, tl_6, tl_7, tl_8, tl_9, tl_10, tl_60, tl_m1] at * <;> omega))
theorem lfctX10_count_7 (p0 : Int32) (c_8 : p0 = 7) : 0 = (countAns p0) := (by
  simp only [countAns]
  repeat' split
  all_goals first | rfl | assumption | (exfalso; simp only [fa_lt, fa_le, fa_eq, fa_lt64, fa_le64, fa_eq64, Int32.toInt_toInt64, tz_0, tz_1, tz_2, tz_3, tz_4, tz_5, tz_6, tz_7, tz_8, tz_9, tz_10, tz_60, tz_m1, tl_0, tl_1, tl_2, tl_3, tl_4, tl_5, tl_6, tl_7, tl_8, tl_9, tl_10, tl_60, tl_m1] at * <;> omega))
theorem lfctX10_count_8 (p0 : Int32) (c_9 : p0 = 8) : 0 = (countAns p0) := (by
  simp only [countAns]
  repeat' split
  all_goals first | rfl | assumption | (exfalso; simp only [fa_lt, fa_le, fa_eq, fa_lt64, fa_le64, fa_eq64, Int32.toInt_toInt64, tz_0, tz_1, tz_2, tz_3, tz_4, tz_5, tz_6, tz_7, tz_8, tz_9, tz_10, tz_60, tz_m1, tl_0, tl_1, tl_2, tl_3, tl_4, tl_5, tl_6, tl_7, tl_8, tl_9, tl_10, tl_60, tl_m1] at * <;> omega))
theorem lfctX10_count_9 (p0 : Int32) (c_10 : p0 = 9) : 0 = (countAns p0) := (by
  simp only [countAns]
  repeat' split
  all_goals first | rfl | assumption | (exfalso; simp only [fa_lt, fa_le, fa_eq, fa_lt64, fa_le64, fa_eq64, Int32.toInt_toInt64, tz_0, tz_1, tz_2, tz_3, tz_4, tz_5, tz_6, tz_7, tz_8, tz_9, tz_10, tz_60, tz_m1, tl_0, tl_1, tl_2, tl_3, tl_4, tl_5, tl_6, tl_7, tl_8, tl_9, tl_10, tl_60, tl_m1] at * <;> omega))
theorem lfctX10_count_10 (p0 : Int32) (c_11 : p0 = 10) : 0 = (countAns p0) := (by
  simp only [countAns]
  repeat' split
  all_goals first | rfl | assumption | (exfalso; simp only [fa_lt, fa_le, fa_eq, fa_lt64, fa_le64, fa_eq64, Int32.toInt_toInt64, tz_0, tz_1, tz_2, tz_3, tz_4, tz_5, tz_6, tz_7, tz_8, tz_9, tz_10, tz_60, tz_m1, tl_0, tl_1, tl_2, tl_3, tl_4, tl_5, tl_6, tl_7, tl_8, tl_9, tl_10, tl_60, tl_m1] at * <;> omega))
theorem lsctX10_count_1 (x : Int32) (h0 : ¬ x = 0) (h1 : ¬ x = 1) (h2 : ¬ x = 2) (h3 : ¬ x = 3) (h4 : ¬ x = 4) (h5 : ¬ x = 5) (h6 : ¬ x = 6) (h7 : ¬ x = 7) (h8 : ¬ x = 8) (h9 : ¬ x = 9) (h10 : ¬ x = 10) : x.toInt < 0 ∨ 10 < x.toInt := by
  simp only [fa_eq, tz_0, tz_1, tz_2, tz_3, tz_4, tz_5, tz_6, tz_7, tz_8, tz_9, tz_10] at *
  omega
theorem lfctX10_count_12 (p0 : Int32) (c_1 : ¬ p0 = 0) (c_2 : ¬ p0 = 1) (c_3 : ¬ p0 = 2) (c_4 : ¬ p0 = 3) (c_5 : ¬ p0 = 4) (c_6 : ¬ p0 = 5) (c_7 : ¬ p0 = 6) (c_8 : ¬ p0 = 7) (c_9 : ¬ p0 = 8) (c_10 : ¬ p0 = 9) (c_11 : ¬ p0 = 10) : (-1) = (countAns p0) := (by
  simp only [countAns]
  repeat' split
  all_goals first | rfl | assumption | (exfalso; simp only [fa_lt, fa_le, fa_eq, fa_lt64, fa_le64, fa_eq64, Int32.toInt_toInt64, tz_0, tz_1, tz_2, tz_3, tz_4, tz_5, tz_6, tz_7, tz_8, tz_9, tz_10, tz_60, tz_m1, tl_0, tl_1, tl_2, tl_3, tl_4, tl_5, tl_6, tl_7, tl_8, tl_9, tl_10, tl_60, tl_m1] at * <;> omega))
set_option maxHeartbeats 4000000 in
set_option maxRecDepth 100000 in
theorem ctX10_count (l : Launch) (D : va_G) (k : Nat → ClassId) (o : Nat → Nat) (p0 : Int32)  : RO l yX10_count cX10_count 2 (some .int) 2 D k [.ref (o 0), .int p0] [((o 0), .inr (10, [.ref (o 1), .ref (o 2), .ref (o 3), .ref (o 4), .ref (o 5), .ref (o 6), .ref (o 7), .ref (o 8), .ref (o 9), .ref (o 10), .ref (o 11), .ref (o 12), .ref (o 13), .ref (o 14)])), ((o 3), .inr (2, [.int 0, .int 0, .int 0, .int 0, .int 0, .int 0, .int 0, .int 0, .int 0, .ref (o 26), .ref (o 27), .ref (o 28), .ref (o 29), .ref (o 30), .ref (o 31), .ref (o 32), .ref (o 33), .ref (o 34), .ref (o 35)])), ((o 1), .inr (4, [.ref (o 15), .int 0, .int 0, .int (-1), .int 0, .int 0, .int 0, .int 0, .int 0])), ((o 10), .inr (6, [.ref (o 77), .ref (o 78), .ref (o 79)])), ((o 79), .inl (k 0, 4, .inl m1))] (Qi (fun r : Int32 => r = (countAns p0))) := by
  refine RO.of (by decide) (Nat.le_of_ble_eq_true rfl) ?_
  intro p e s m below meth c ls A args Q S hr hlk hQ hK hP hDW hA hS hl
  have hx := S.1
  have hb := S.2.1
  have hl : lv_has ls 2 [(0, .ref (o 0)), (1, .int p0)] := hl
  refine lv_iload_n hx hb dX10_count_0 rfl (lv_at hl 1 rfl) ?_
  by_cases c_1 : p0 = 0
  · skip
    refine x_is 0 c_1 ?_
    refine lv_tableIn (tgt := 60) hx hb dX10_count_1 (by decide) (by decide) rfl (by decide) ?_
    refine lv_aload_n hx hb dX10_count_60 rfl (lv_at hl 0 rfl) ?_
    refine x_get S hK hP 0 rfl cfX10 2 lkX10_23 (by decide) rfl dX10_count_61 ?_
    refine x_get S hK hP 1 rfl cfX2 1 lkX10_401 (by decide) rfl dX10_count_64 ?_
    exact x_reti S hr hlk hQ hS () (lfctX10_count_0 p0 c_1) x_T dX10_count_67
  by_cases c_2 : p0 = 1
  · skip
    refine x_is 1 c_2 ?_
    refine lv_tableIn (tgt := 68) hx hb dX10_count_1 (by decide) (by decide) rfl (by decide) ?_
    refine lv_aload_n hx hb dX10_count_68 rfl (lv_at hl 0 rfl) ?_
    refine x_get S hK hP 0 rfl cfX10 2 lkX10_23 (by decide) rfl dX10_count_69 ?_
    refine x_get S hK hP 1 rfl cfX2 2 lkX10_417 (by decide) rfl dX10_count_72 ?_
    exact x_reti S hr hlk hQ hS () (lfctX10_count_1 p0 c_2) x_T dX10_count_75
  by_cases c_3 : p0 = 2
  · skip
    refine x_is 2 c_3 ?_
    refine lv_tableIn (tgt := 76) hx hb dX10_count_1 (by decide) (by decide) rfl (by decide) ?_
    refine lv_aload_n hx hb dX10_count_76 rfl (lv_at hl 0 rfl) ?_
    refine x_get S hK hP 0 rfl cfX10 2 lkX10_23 (by decide) rfl dX10_count_77 ?_
    refine x_get S hK hP 1 rfl cfX2 3 lkX10_420 (by decide) rfl dX10_count_80 ?_
    exact x_reti S hr hlk hQ hS () (lfctX10_count_2 p0 c_3) x_T dX10_count_83
  by_cases c_4 : p0 = 3
  · skip
    refine x_is 3 c_4 ?_
    refine lv_tableIn (tgt := 84) hx hb dX10_count_1 (by decide) (by decide) rfl (by decide) ?_
    refine lv_aload_n hx hb dX10_count_84 rfl (lv_at hl 0 rfl) ?_
    refine x_get S hK hP 0 rfl cfX10 2 lkX10_23 (by decide) rfl dX10_count_85 ?_
    refine x_get S hK hP 1 rfl cfX2 4 lkX10_423 (by decide) rfl dX10_count_88 ?_
    exact x_reti S hr hlk hQ hS () (lfctX10_count_3 p0 c_4) x_T dX10_count_91
  by_cases c_5 : p0 = 4
  · skip
    refine x_is 4 c_5 ?_
    refine lv_tableIn (tgt := 92) hx hb dX10_count_1 (by decide) (by decide) rfl (by decide) ?_
    refine lv_aload_n hx hb dX10_count_92 rfl (lv_at hl 0 rfl) ?_
    refine x_get S hK hP 0 rfl cfX10 2 lkX10_23 (by decide) rfl dX10_count_93 ?_
    refine x_get S hK hP 1 rfl cfX2 5 lkX10_296 (by decide) rfl dX10_count_96 ?_
    exact x_reti S hr hlk hQ hS () (lfctX10_count_4 p0 c_5) x_T dX10_count_99
  by_cases c_6 : p0 = 5
  · skip
    refine x_is 5 c_6 ?_
    refine lv_tableIn (tgt := 100) hx hb dX10_count_1 (by decide) (by decide) rfl (by decide) ?_
    refine lv_aload_n hx hb dX10_count_100 rfl (lv_at hl 0 rfl) ?_
    refine x_get S hK hP 0 rfl cfX10 2 lkX10_23 (by decide) rfl dX10_count_101 ?_
    refine x_get S hK hP 1 rfl cfX2 6 lkX10_426 (by decide) rfl dX10_count_104 ?_
    exact x_reti S hr hlk hQ hS () (lfctX10_count_5 p0 c_6) x_T dX10_count_107
  by_cases c_7 : p0 = 6
  · skip
    refine x_is 6 c_7 ?_
    refine lv_tableIn (tgt := 108) hx hb dX10_count_1 (by decide) (by decide) rfl (by decide) ?_
    refine lv_aload_n hx hb dX10_count_108 rfl (lv_at hl 0 rfl) ?_
    refine x_get S hK hP 0 rfl cfX10 2 lkX10_23 (by decide) rfl dX10_count_109 ?_
    refine x_get S hK hP 1 rfl cfX2 7 lkX10_429 (by decide) rfl dX10_count_112 ?_
    exact x_reti S hr hlk hQ hS () (lfctX10_count_6 p0 c_7) x_T dX10_count_115
  by_cases c_8 : p0 = 7
  · skip
    refine x_is 7 c_8 ?_
    refine lv_tableIn (tgt := 116) hx hb dX10_count_1 (by decide) (by decide) rfl (by decide) ?_
    refine lv_aload_n hx hb dX10_count_116 rfl (lv_at hl 0 rfl) ?_
    refine x_get S hK hP 0 rfl cfX10 2 lkX10_23 (by decide) rfl dX10_count_117 ?_
    refine x_get S hK hP 1 rfl cfX2 8 lkX10_394 (by decide) rfl dX10_count_120 ?_
    exact x_reti S hr hlk hQ hS () (lfctX10_count_7 p0 c_8) x_T dX10_count_123
  by_cases c_9 : p0 = 8
  · skip
    refine x_is 8 c_9 ?_
    refine lv_tableIn (tgt := 124) hx hb dX10_count_1 (by decide) (by decide) rfl (by decide) ?_
    refine lv_aload_n hx hb dX10_count_124 rfl (lv_at hl 0 rfl) ?_
    refine x_get S hK hP 0 rfl cfX10 2 lkX10_23 (by decide) rfl dX10_count_125 ?_
    refine x_get S hK hP 1 rfl cfX2 0 lkX10_126 (by decide) rfl dX10_count_128 ?_
    exact x_reti S hr hlk hQ hS () (lfctX10_count_8 p0 c_9) x_T dX10_count_131
  by_cases c_10 : p0 = 9
  · skip
    refine x_is 9 c_10 ?_
    refine lv_tableIn (tgt := 132) hx hb dX10_count_1 (by decide) (by decide) rfl (by decide) ?_
    refine lv_aload_n hx hb dX10_count_132 rfl (lv_at hl 0 rfl) ?_
    refine x_get S hK hP 0 rfl cfX10 0 lkX10_10 (by decide) rfl dX10_count_133 ?_
    refine x_get S hK hP 2 rfl cfX4 1 lkX10_114 (by decide) rfl dX10_count_136 ?_
    exact x_reti S hr hlk hQ hS () (lfctX10_count_9 p0 c_10) x_T dX10_count_139
  by_cases c_11 : p0 = 10
  · skip
    refine x_is 10 c_11 ?_
    refine lv_tableIn (tgt := 140) hx hb dX10_count_1 (by decide) (by decide) rfl (by decide) ?_
    refine lv_aload_n hx hb dX10_count_140 rfl (lv_at hl 0 rfl) ?_
    refine x_get S hK hP 0 rfl cfX10 9 lkX10_73 (by decide) rfl dX10_count_141 ?_
    refine x_roVi (As := []) S hK hP hS hA hl mwX6_filled lkX10_432 (ctX6_filled l D k o ) [3, 4] rfl (hDW.sub [3, 4] (by decide) rfl) rfl rfl rfl rfl rfl ⟨Nat.le_of_ble_eq_true rfl, Nat.le_of_ble_eq_true rfl, Nat.le_of_ble_eq_true rfl⟩ dX10_count_144 ⟨Nat.le_of_ble_eq_true rfl, Nat.le_of_ble_eq_true rfl⟩ (fun r_12 H locs hr_12 hP hS => ?_)
    subst hr_12
    exact x_reti S hr hlk hQ hS () (lfctX10_count_10 p0 c_11) x_T dX10_count_147
  refine lv_tableOut (tgt := 148) hx hb dX10_count_1 (lsctX10_count_1 _ c_1 c_2 c_3 c_4 c_5 c_6 c_7 c_8 c_9 c_10 c_11) (by decide) ?_
  refine lv_iconst (v := (-1)) hx hb dX10_count_148 (by decide) ?_
  exact x_reti S hr hlk hQ hS () (lfctX10_count_12 p0 c_1 c_2 c_3 c_4 c_5 c_6 c_7 c_8 c_9 c_10 c_11) x_T dX10_count_149

theorem lfctX10_write_0 (p0 : Int32) (c_2 : 0 ≤ p0 ∧ p0 < 4) : (-6) = (writeAns p0) := (by
  simp only [writeAns]
  repeat' split
  all_goals first | rfl | assumption | (exfalso; simp only [fa_lt, fa_le, fa_eq, fa_lt64, fa_le64, fa_eq64, Int32.toInt_toInt64, tz_0, tz_1, tz_2, tz_3, tz_4, tz_5, tz_6, tz_7, tz_8, tz_9, tz_10, tz_60, tz_m1, tl_0, tl_1, tl_2, tl_3, tl_4, tl_5, tl_6, tl_7, tl_8, tl_9, tl_10, tl_60, tl_m1] at * <;> omega))
theorem lfctX10_write_1 (p0 : Int32) (c_2 : ¬ (0 ≤ p0 ∧ p0 < 4)) : (-2) = (writeAns p0) := (by
  simp only [writeAns]
  repeat' split
  all_goals first | rfl | assumption | (exfalso; simp only [fa_lt, fa_le, fa_eq, fa_lt64, fa_le64, fa_eq64, Int32.toInt_toInt64, tz_0, tz_1, tz_2, tz_3, tz_4, tz_5, tz_6, tz_7, tz_8, tz_9, tz_10, tz_60, tz_m1, tl_0, tl_1, tl_2, tl_3, tl_4, tl_5, tl_6, tl_7, tl_8, tl_9, tl_10, tl_60, tl_m1] at * <;> omega))
set_option maxHeartbeats 4000000 in
set_option maxRecDepth 100000 in
theorem ctX10_write (l : Launch) (D : va_G) (k : Nat → ClassId) (o : Nat → Nat) (p0 : Int32) (p1 : Int32) (p2 : Int64)  : RO l yX10_write cX10_write 5 (some .int) 1 D k [.ref (o 0), .int p0, .int p1, .long p2] [((o 0), .inr (10, [.ref (o 1), .ref (o 2), .ref (o 3), .ref (o 4), .ref (o 5), .ref (o 6), .ref (o 7), .ref (o 8), .ref (o 9), .ref (o 10), .ref (o 11), .ref (o 12), .ref (o 13), .ref (o 14)])), ((o 3), .inr (2, [.int 0, .int 0, .int 0, .int 0, .int 0, .int 0, .int 0, .int 0, .int 0, .ref (o 26), .ref (o 27), .ref (o 28), .ref (o 29), .ref (o 30), .ref (o 31), .ref (o 32), .ref (o 33), .ref (o 34), .ref (o 35)])), ((o 1), .inr (4, [.ref (o 15), .int 0, .int 0, .int (-1), .int 0, .int 0, .int 0, .int 0, .int 0])), ((o 10), .inr (6, [.ref (o 77), .ref (o 78), .ref (o 79)])), ((o 79), .inl (k 0, 4, .inl m1))] (Qi (fun r : Int32 => r = (writeAns p0))) := by
  refine RO.of (by decide) (Nat.le_of_ble_eq_true rfl) ?_
  intro p e s m below meth c ls A args Q S hr hlk hQ hK hP hDW hA hS hl
  have hx := S.1
  have hb := S.2.1
  have hl : lv_has ls 5 [(0, .ref (o 0)), (1, .int p0), (2, .int p1), (3, .long p2)] := hl
  refine lv_iload_n hx hb dX10_write_0 rfl (lv_at hl 1 rfl) ?_
  refine x_roSi (As := [.int p0]) S hK hP hS hA hl mwX10_isSlot lkX10_435 (ctX10_isSlot l D k p0 ) [] rfl D_nil rfl rfl ⟨Nat.le_of_ble_eq_true rfl, Nat.le_of_ble_eq_true rfl, Nat.le_of_ble_eq_true rfl⟩ dX10_write_1 ⟨Nat.le_of_ble_eq_true rfl, Nat.le_of_ble_eq_true rfl⟩ (fun r_1 H locs hr_1 hP hS => ?_)
  subst hr_1
  refine lv_if_ne (tgt := 10) hx hb dX10_write_4 (by decide) (fun c_2 => ?_) (fun c_2 => ?_)
  · skip
    have c_2 : 0 ≤ p0 ∧ p0 < 4 := bo_1.mp c_2
    obtain ⟨j, hj, ej⟩ : ∃ j : Nat, j < 4 ∧ p0 = nI j := nat4 c_2
    have hl : lv_has ls 5 [(0, .ref (o 0)), (1, .int (nI j)), (2, .int p1), (3, .long p2)] := by rw [ej] at hl; exact hl
    refine lv_aload_n hx hb dX10_write_10 rfl (lv_at hl 0 rfl) ?_
    refine x_get S hK hP 0 rfl cfX10 9 lkX10_73 (by decide) rfl dX10_write_11 ?_
    refine lv_iload_n hx hb dX10_write_14 rfl (lv_at hl 1 rfl) ?_
    refine x_roVi (As := [.int (nI j)]) S hK hP hS hA hl mwX6_isEmpty lkX10_441 (ctX6_isEmpty l D k o j (by omega)) [3, 4] rfl (hDW.sub [3, 4] (by decide) rfl) rfl rfl rfl rfl rfl ⟨Nat.le_of_ble_eq_true rfl, Nat.le_of_ble_eq_true rfl, Nat.le_of_ble_eq_true rfl⟩ dX10_write_15 ⟨Nat.le_of_ble_eq_true rfl, Nat.le_of_ble_eq_true rfl⟩ (fun r_3 H locs hr_3 hP hS => ?_)
    subst hr_3
    refine lv_if_eq (tgt := 24) hx hb dX10_write_18 (by decide) (fun c_4 => absurd c_4 (by decide)) (fun c_4 => ?_)
    refine lv_bipush (v := (-6)) hx hb dX10_write_21 (by decide) ?_
    exact x_reti S hr hlk hQ hS () (lfctX10_write_0 p0 c_2) x_T dX10_write_23
  · skip
    have c_2 : ¬ (0 ≤ p0 ∧ p0 < 4) := bo_0.mp c_2
    refine lv_bipush (v := (-2)) hx hb dX10_write_7 (by decide) ?_
    exact x_reti S hr hlk hQ hS () (lfctX10_write_1 p0 c_2) x_T dX10_write_9

theorem lfctX10_paste_0 (p0 : Int32) (p2 : Int32) (c_2 : ¬ (0 ≤ p0 ∧ p0 < 4)) : (-2) = (pasteAns p0 p2) := (by
  simp only [pasteAns]
  repeat' split
  all_goals first | rfl | assumption | (exfalso; simp only [fa_lt, fa_le, fa_eq, fa_lt64, fa_le64, fa_eq64, Int32.toInt_toInt64, tz_0, tz_1, tz_2, tz_3, tz_4, tz_5, tz_6, tz_7, tz_8, tz_9, tz_10, tz_60, tz_m1, tl_0, tl_1, tl_2, tl_3, tl_4, tl_5, tl_6, tl_7, tl_8, tl_9, tl_10, tl_60, tl_m1] at * <;> omega))
theorem lfctX10_paste_1 (p0 : Int32) (p2 : Int32) (c_2 : 0 ≤ p0 ∧ p0 < 4) (c_4 : 0 ≤ p2 ∧ p2 < 4) : (-6) = (pasteAns p0 p2) := (by
  simp only [pasteAns]
  repeat' split
  all_goals first | rfl | assumption | (exfalso; simp only [fa_lt, fa_le, fa_eq, fa_lt64, fa_le64, fa_eq64, Int32.toInt_toInt64, tz_0, tz_1, tz_2, tz_3, tz_4, tz_5, tz_6, tz_7, tz_8, tz_9, tz_10, tz_60, tz_m1, tl_0, tl_1, tl_2, tl_3, tl_4, tl_5, tl_6, tl_7, tl_8, tl_9, tl_10, tl_60, tl_m1] at * <;> omega))
theorem lfctX10_paste_2 (p0 : Int32) (p2 : Int32) (c_2 : 0 ≤ p0 ∧ p0 < 4) (c_4 : ¬ (0 ≤ p2 ∧ p2 < 4)) : (-2) = (pasteAns p0 p2) := (by
  simp only [pasteAns]
  repeat' split
  all_goals first | rfl | assumption | (exfalso; simp only [fa_lt, fa_le, fa_eq, fa_lt64, fa_le64, fa_eq64, Int32.toInt_toInt64, tz_0, tz_1, tz_2, tz_3, tz_4, tz_5, tz_6, tz_7, tz_8, tz_9, tz_10, tz_60, tz_m1, tl_0, tl_1, tl_2, tl_3, tl_4, tl_5, tl_6, tl_7, tl_8, tl_9, tl_10, tl_60, tl_m1] at * <;> omega))
set_option maxHeartbeats 4000000 in
set_option maxRecDepth 100000 in
theorem ctX10_paste (l : Launch) (D : va_G) (k : Nat → ClassId) (o : Nat → Nat) (p0 : Int32) (p1 : Int32) (p2 : Int32) (p3 : Int32) (p4 : Int32)  : RO l yX10_paste cX10_paste 6 (some .int) 1 D k [.ref (o 0), .int p0, .int p1, .int p2, .int p3, .int p4] [((o 0), .inr (10, [.ref (o 1), .ref (o 2), .ref (o 3), .ref (o 4), .ref (o 5), .ref (o 6), .ref (o 7), .ref (o 8), .ref (o 9), .ref (o 10), .ref (o 11), .ref (o 12), .ref (o 13), .ref (o 14)])), ((o 3), .inr (2, [.int 0, .int 0, .int 0, .int 0, .int 0, .int 0, .int 0, .int 0, .int 0, .ref (o 26), .ref (o 27), .ref (o 28), .ref (o 29), .ref (o 30), .ref (o 31), .ref (o 32), .ref (o 33), .ref (o 34), .ref (o 35)])), ((o 1), .inr (4, [.ref (o 15), .int 0, .int 0, .int (-1), .int 0, .int 0, .int 0, .int 0, .int 0])), ((o 10), .inr (6, [.ref (o 77), .ref (o 78), .ref (o 79)])), ((o 79), .inl (k 0, 4, .inl m1))] (Qi (fun r : Int32 => r = (pasteAns p0 p2))) := by
  refine RO.of (by decide) (Nat.le_of_ble_eq_true rfl) ?_
  intro p e s m below meth c ls A args Q S hr hlk hQ hK hP hDW hA hS hl
  have hx := S.1
  have hb := S.2.1
  have hl : lv_has ls 6 [(0, .ref (o 0)), (1, .int p0), (2, .int p1), (3, .int p2), (4, .int p3), (5, .int p4)] := hl
  refine lv_iload_n hx hb dX10_paste_0 rfl (lv_at hl 1 rfl) ?_
  refine x_roSi (As := [.int p0]) S hK hP hS hA hl mwX10_isSlot lkX10_435 (ctX10_isSlot l D k p0 ) [] rfl D_nil rfl rfl ⟨Nat.le_of_ble_eq_true rfl, Nat.le_of_ble_eq_true rfl, Nat.le_of_ble_eq_true rfl⟩ dX10_paste_1 ⟨Nat.le_of_ble_eq_true rfl, Nat.le_of_ble_eq_true rfl⟩ (fun r_1 H locs hr_1 hP hS => ?_)
  subst hr_1
  refine lv_if_eq (tgt := 14) hx hb dX10_paste_4 (by decide) (fun c_2 => ?_) (fun c_2 => ?_)
  · skip
    have c_2 : ¬ (0 ≤ p0 ∧ p0 < 4) := bo_0.mp c_2
    refine lv_bipush (v := (-2)) hx hb dX10_paste_14 (by decide) ?_
    exact x_reti S hr hlk hQ hS () (lfctX10_paste_0 p0 p2 c_2) x_T dX10_paste_16
  · skip
    have c_2 : 0 ≤ p0 ∧ p0 < 4 := bo_1.mp c_2
    refine lv_iload_n hx hb dX10_paste_7 rfl (lv_at hl 3 rfl) ?_
    refine x_roSi (As := [.int p2]) S hK hP hS hA hl mwX10_isSlot lkX10_435 (ctX10_isSlot l D k p2 ) [] rfl D_nil rfl rfl ⟨Nat.le_of_ble_eq_true rfl, Nat.le_of_ble_eq_true rfl, Nat.le_of_ble_eq_true rfl⟩ dX10_paste_8 ⟨Nat.le_of_ble_eq_true rfl, Nat.le_of_ble_eq_true rfl⟩ (fun r_3 H locs hr_3 hP hS => ?_)
    subst hr_3
    refine lv_if_ne (tgt := 17) hx hb dX10_paste_11 (by decide) (fun c_4 => ?_) (fun c_4 => ?_)
    · skip
      have c_4 : 0 ≤ p2 ∧ p2 < 4 := bo_1.mp c_4
      obtain ⟨j, hj, ej⟩ : ∃ j : Nat, j < 4 ∧ p0 = nI j := nat4 c_2
      have hl : lv_has ls 6 [(0, .ref (o 0)), (1, .int (nI j)), (2, .int p1), (3, .int p2), (4, .int p3), (5, .int p4)] := by rw [ej] at hl; exact hl
      obtain ⟨i, hi, ei⟩ : ∃ i : Nat, i < 4 ∧ p2 = nI i := nat4 c_4
      have hl : lv_has ls 6 [(0, .ref (o 0)), (1, .int (nI j)), (2, .int p1), (3, .int (nI i)), (4, .int p3), (5, .int p4)] := by rw [ei] at hl; exact hl
      refine lv_aload_n hx hb dX10_paste_17 rfl (lv_at hl 0 rfl) ?_
      refine x_get S hK hP 0 rfl cfX10 9 lkX10_73 (by decide) rfl dX10_paste_18 ?_
      refine lv_iload_n hx hb dX10_paste_21 rfl (lv_at hl 1 rfl) ?_
      refine x_roVi (As := [.int (nI j)]) S hK hP hS hA hl mwX6_isEmpty lkX10_441 (ctX6_isEmpty l D k o j (by omega)) [3, 4] rfl (hDW.sub [3, 4] (by decide) rfl) rfl rfl rfl rfl rfl ⟨Nat.le_of_ble_eq_true rfl, Nat.le_of_ble_eq_true rfl, Nat.le_of_ble_eq_true rfl⟩ dX10_paste_22 ⟨Nat.le_of_ble_eq_true rfl, Nat.le_of_ble_eq_true rfl⟩ (fun r_5 H locs hr_5 hP hS => ?_)
      subst hr_5
      refine lv_if_ne (tgt := 39) hx hb dX10_paste_25 (by decide) (fun c_6 => ?_) (fun c_6 => absurd c_6 (by decide))
      refine lv_bipush (v := (-6)) hx hb dX10_paste_39 (by decide) ?_
      exact x_reti S hr hlk hQ hS () (lfctX10_paste_1 p0 p2 c_2 c_4) x_T dX10_paste_41
    · skip
      have c_4 : ¬ (0 ≤ p2 ∧ p2 < 4) := bo_0.mp c_4
      refine lv_bipush (v := (-2)) hx hb dX10_paste_14 (by decide) ?_
      exact x_reti S hr hlk hQ hS () (lfctX10_paste_2 p0 p2 c_2 c_4) x_T dX10_paste_16

set_option maxHeartbeats 4000000 in
set_option maxRecDepth 100000 in
theorem ctX6_lay (l : Launch) (D : va_G) (k : Nat → ClassId) (o : Nat → Nat) (rn : Nat → Nat) (j : Nat) (p1 : Int32) (p2 : Int32) (hj : j < 4) : MU l yX6_lay cX6_lay 5 none 0 D k [.ref (o 10), .int (nI j), .int p1, .int p2] [((o 10), .inr (6, [.ref (o 77), .ref (o 78), .ref (o 79)])), ((o 77), .inl (k 6, 4, .inr (.inr (.inr (.inr (fun i => if i < 4 then some (rn i) else none)))))), ((rn 0), .inl (k 2, 60, .inr (.inl (fun _ => 0)))), ((rn 1), .inl (k 2, 60, .inr (.inl (fun _ => 0)))), ((rn 2), .inl (k 2, 60, .inr (.inl (fun _ => 0)))), ((rn 3), .inl (k 2, 60, .inr (.inl (fun _ => 0)))), ((o 78), .inl (k 0, 4, .inl (fun _ => 0))), ((o 79), .inl (k 0, 4, .inl m1))] 0 0 (Uv D (fun _ : Unit => True) (fun _ : Unit => [])) := by
  refine MU.of (by decide) (Nat.le_of_ble_eq_true rfl) ?_
  intro p e s m below meth c ls A args Q S hr hlk hnm hQ hK hP hD hA hS hl
  have hx := S.1
  have hb := S.2.1
  have hl : lv_has ls 5 [(0, .ref (o 10)), (1, .int (nI j)), (2, .int p1), (3, .int p2)] := hl
  rcases (show j = 0 ∨ j = 1 ∨ j = 2 ∨ j = 3 by omega) with rfl | rfl | rfl | rfl
  · skip
    have hl : lv_has ls 5 [(0, .ref (o 10)), (1, .int 0), (2, .int p1), (3, .int p2)] := hl
    refine lv_aload_n hx hb dX6_lay_0 rfl (lv_at hl 0 rfl) ?_
    refine x_get S hK hP 0 rfl cfX6 1 lkX6_16 (by decide) rfl dX6_lay_1 ?_
    refine lv_iload_n hx hb dX6_lay_4 rfl (lv_at hl 1 rfl) ?_
    refine lv_iload_n hx hb dX6_lay_5 rfl (lv_at hl 2 rfl) ?_
    refine x_iast (ws' := fun f_1 => [((o 10), .inr (6, [.ref (o 77), .ref (o 78), .ref (o 79)])), ((o 77), .inl (k 6, 4, .inr (.inr (.inr (.inr (fun i => if i < 4 then some (rn i) else none)))))), ((rn 0), .inl (k 2, 60, .inr (.inl (fun _ => 0)))), ((rn 1), .inl (k 2, 60, .inr (.inl (fun _ => 0)))), ((rn 2), .inl (k 2, 60, .inr (.inl (fun _ => 0)))), ((rn 3), .inl (k 2, 60, .inr (.inl (fun _ => 0)))), ((o 78), .inl (k 0, 4, .inl f_1)), ((o 79), .inl (k 0, 4, .inl m1))]) S hK hP hD hS 6 rfl (vp_lit (by decide)) (fun _ => rfl) dX6_lay_6 (fun f_1 H locs ef_1 hP hD hS => ?_)
    refine lv_aload_n hx hb dX6_lay_7 rfl (lv_at hl 0 rfl) ?_
    refine x_get S hK hP 0 rfl cfX6 2 lkX6_20 (by decide) rfl dX6_lay_8 ?_
    refine lv_iload_n hx hb dX6_lay_11 rfl (lv_at hl 1 rfl) ?_
    refine lv_iload_n hx hb dX6_lay_12 rfl (lv_at hl 3 rfl) ?_
    refine x_iast (ws' := fun f_2 => [((o 10), .inr (6, [.ref (o 77), .ref (o 78), .ref (o 79)])), ((o 77), .inl (k 6, 4, .inr (.inr (.inr (.inr (fun i => if i < 4 then some (rn i) else none)))))), ((rn 0), .inl (k 2, 60, .inr (.inl (fun _ => 0)))), ((rn 1), .inl (k 2, 60, .inr (.inl (fun _ => 0)))), ((rn 2), .inl (k 2, 60, .inr (.inl (fun _ => 0)))), ((rn 3), .inl (k 2, 60, .inr (.inl (fun _ => 0)))), ((o 78), .inl (k 0, 4, .inl f_1)), ((o 79), .inl (k 0, 4, .inl f_2))]) S hK hP hD hS 7 rfl (vp_lit (by decide)) (fun _ => rfl) dX6_lay_13 (fun f_2 H locs ef_2 hP hD hS => ?_)
    refine lv_iconst (v := 0) hx hb dX6_lay_14 (by decide) ?_
    refine lv_istore (lv' := [(4, .int 0), (0, .ref (o 10)), (1, .int 0), (2, .int p1), (3, .int p2)]) hx hb dX6_lay_15 hl (by decide) rfl (fun ls hl => ?_)
    have lp_5 : ∀ (nn j_3 : Nat) (g_4 : Nat → Int64) (H : Heap) (locs : List Loc) (ls : Array Slot), j_3 ≤ 60 → 60 - j_3 < nn → va_P D vwCl [((o 10), .inr (6, [.ref (o 77), .ref (o 78), .ref (o 79)])), ((o 77), .inl (k 6, 4, .inr (.inr (.inr (.inr (fun i => if i < 4 then some (rn i) else none)))))), ((rn 0), .inl (k 2, 60, .inr (.inl g_4))), ((rn 1), .inl (k 2, 60, .inr (.inl (fun _ => 0)))), ((rn 2), .inl (k 2, 60, .inr (.inl (fun _ => 0)))), ((rn 3), .inl (k 2, 60, .inr (.inl (fun _ => 0)))), ((o 78), .inl (k 0, 4, .inl f_1)), ((o 79), .inl (k 0, 4, .inl f_2))] H → va_D A [((o 10), .inr (6, [.ref (o 77), .ref (o 78), .ref (o 79)])), ((o 77), .inl (k 6, 4, .inr (.inr (.inr (.inr (fun i => if i < 4 then some (rn i) else none)))))), ((rn 0), .inl (k 2, 60, .inr (.inl g_4))), ((rn 1), .inl (k 2, 60, .inr (.inl (fun _ => 0)))), ((rn 2), .inl (k 2, 60, .inr (.inl (fun _ => 0)))), ((rn 3), .inl (k 2, 60, .inr (.inl (fun _ => 0)))), ((o 78), .inl (k 0, 4, .inl f_1)), ((o 79), .inl (k 0, 4, .inl f_2))] → va_S A s.heap H locs → lv_has ls 5 [(4, .int (nI j_3)), (0, .ref (o 10)), (1, .int 0), (2, .int p1), (3, .int p2)] → W p l e (Rm 0 0 0) s m args below meth c H locs 0 0 Q (F0 m 17 ls []) := by
      intro nn
      induction nn with
      | zero => intro j_3 g_4 H locs ls hjj_3 hnj_3; exact absurd hnj_3 (by omega)
      | succ nn ihj_3 =>
        intro j_3 g_4 H locs ls hjj_3 hnj_3 hP hD hS hl
        refine lv_iload hx hb dX6_lay_17 (lv_at hl 0 rfl) ?_
        refine lv_bipush (v := 60) hx hb dX6_lay_19 (by decide) ?_
        refine lv_icmp_ge (tgt := 40) hx hb dX6_lay_21 (by decide) (fun c_6 => ?_) (fun c_6 => ?_)
        · skip
          have c_6 : 60 ≤ j_3 := (ni_le (by decide) rfl (by omega) (by omega)).mp c_6
          exact x_retv S hr hlk hQ hS () trivial (x_B P_nil D_nil) dX6_lay_40
        · skip
          have c_6 : ¬ 60 ≤ j_3 := fun q => c_6 ((ni_le (by decide) rfl (by omega) (by omega)).mpr q)
          refine lv_aload_n hx hb dX6_lay_24 rfl (lv_at hl 1 rfl) ?_
          refine x_get S hK hP 0 rfl cfX6 0 lkX6_11 (by decide) rfl dX6_lay_25 ?_
          refine lv_iload_n hx hb dX6_lay_28 rfl (lv_at hl 2 rfl) ?_
          refine x_Jald (v := (rn 0)) S hK hP 1 rfl (vp_lit (by decide)) rfl dX6_lay_29 ?_
          refine lv_iload hx hb dX6_lay_30 (lv_at hl 0 rfl) ?_
          refine lv_lconst (v := 0) hx hb dX6_lay_32 (by decide) ?_
          refine x_last (ws' := fun f_7 => [((o 10), .inr (6, [.ref (o 77), .ref (o 78), .ref (o 79)])), ((o 77), .inl (k 6, 4, .inr (.inr (.inr (.inr (fun i => if i < 4 then some (rn i) else none)))))), ((rn 0), .inl (k 2, 60, .inr (.inl f_7))), ((rn 1), .inl (k 2, 60, .inr (.inl (fun _ => 0)))), ((rn 2), .inl (k 2, 60, .inr (.inl (fun _ => 0)))), ((rn 3), .inl (k 2, 60, .inr (.inl (fun _ => 0)))), ((o 78), .inl (k 0, 4, .inl f_1)), ((o 79), .inl (k 0, 4, .inl f_2))]) S hK hP hD hS 2 rfl (vp_in_nI (by omega) (by decide)) (fun _ => rfl) dX6_lay_33 (fun f_7 H locs ef_7 hP hD hS => ?_)
          refine lv_iinc (v := (nI (j_3 + 1))) (lv' := [(4, .int (nI (j_3 + 1))), (0, .ref (o 10)), (1, .int 0), (2, .int p1), (3, .int p2)]) hx hb dX6_lay_34 hl (k := 0) rfl (ni_inc _) (by decide) rfl (fun ls hl => ?_)
          refine lv_goto (tgt := 17) hx hb dX6_lay_37 (by decide) ?_
          exact ihj_3 (j_3 + 1) f_7 _ _ _ (by omega) (by omega) hP hD hS (lv_sub hl [0, 1, 2, 3, 4] rfl)
    exact lp_5 (60 + 1) 0 (fun _ => 0) _ _ _ (by omega) (by omega) hP hD hS (lv_sub hl [0, 1, 2, 3, 4] rfl)
  · skip
    have hl : lv_has ls 5 [(0, .ref (o 10)), (1, .int 1), (2, .int p1), (3, .int p2)] := hl
    refine lv_aload_n hx hb dX6_lay_0 rfl (lv_at hl 0 rfl) ?_
    refine x_get S hK hP 0 rfl cfX6 1 lkX6_16 (by decide) rfl dX6_lay_1 ?_
    refine lv_iload_n hx hb dX6_lay_4 rfl (lv_at hl 1 rfl) ?_
    refine lv_iload_n hx hb dX6_lay_5 rfl (lv_at hl 2 rfl) ?_
    refine x_iast (ws' := fun f_8 => [((o 10), .inr (6, [.ref (o 77), .ref (o 78), .ref (o 79)])), ((o 77), .inl (k 6, 4, .inr (.inr (.inr (.inr (fun i => if i < 4 then some (rn i) else none)))))), ((rn 0), .inl (k 2, 60, .inr (.inl (fun _ => 0)))), ((rn 1), .inl (k 2, 60, .inr (.inl (fun _ => 0)))), ((rn 2), .inl (k 2, 60, .inr (.inl (fun _ => 0)))), ((rn 3), .inl (k 2, 60, .inr (.inl (fun _ => 0)))), ((o 78), .inl (k 0, 4, .inl f_8)), ((o 79), .inl (k 0, 4, .inl m1))]) S hK hP hD hS 6 rfl (vp_lit (by decide)) (fun _ => rfl) dX6_lay_6 (fun f_8 H locs ef_8 hP hD hS => ?_)
    refine lv_aload_n hx hb dX6_lay_7 rfl (lv_at hl 0 rfl) ?_
    refine x_get S hK hP 0 rfl cfX6 2 lkX6_20 (by decide) rfl dX6_lay_8 ?_
    refine lv_iload_n hx hb dX6_lay_11 rfl (lv_at hl 1 rfl) ?_
    refine lv_iload_n hx hb dX6_lay_12 rfl (lv_at hl 3 rfl) ?_
    refine x_iast (ws' := fun f_9 => [((o 10), .inr (6, [.ref (o 77), .ref (o 78), .ref (o 79)])), ((o 77), .inl (k 6, 4, .inr (.inr (.inr (.inr (fun i => if i < 4 then some (rn i) else none)))))), ((rn 0), .inl (k 2, 60, .inr (.inl (fun _ => 0)))), ((rn 1), .inl (k 2, 60, .inr (.inl (fun _ => 0)))), ((rn 2), .inl (k 2, 60, .inr (.inl (fun _ => 0)))), ((rn 3), .inl (k 2, 60, .inr (.inl (fun _ => 0)))), ((o 78), .inl (k 0, 4, .inl f_8)), ((o 79), .inl (k 0, 4, .inl f_9))]) S hK hP hD hS 7 rfl (vp_lit (by decide)) (fun _ => rfl) dX6_lay_13 (fun f_9 H locs ef_9 hP hD hS => ?_)
    refine lv_iconst (v := 0) hx hb dX6_lay_14 (by decide) ?_
    refine lv_istore (lv' := [(4, .int 0), (0, .ref (o 10)), (1, .int 1), (2, .int p1), (3, .int p2)]) hx hb dX6_lay_15 hl (by decide) rfl (fun ls hl => ?_)
    have lp_12 : ∀ (nn j_10 : Nat) (g_11 : Nat → Int64) (H : Heap) (locs : List Loc) (ls : Array Slot), j_10 ≤ 60 → 60 - j_10 < nn → va_P D vwCl [((o 10), .inr (6, [.ref (o 77), .ref (o 78), .ref (o 79)])), ((o 77), .inl (k 6, 4, .inr (.inr (.inr (.inr (fun i => if i < 4 then some (rn i) else none)))))), ((rn 0), .inl (k 2, 60, .inr (.inl (fun _ => 0)))), ((rn 1), .inl (k 2, 60, .inr (.inl g_11))), ((rn 2), .inl (k 2, 60, .inr (.inl (fun _ => 0)))), ((rn 3), .inl (k 2, 60, .inr (.inl (fun _ => 0)))), ((o 78), .inl (k 0, 4, .inl f_8)), ((o 79), .inl (k 0, 4, .inl f_9))] H → va_D A [((o 10), .inr (6, [.ref (o 77), .ref (o 78), .ref (o 79)])), ((o 77), .inl (k 6, 4, .inr (.inr (.inr (.inr (fun i => if i < 4 then some (rn i) else none)))))), ((rn 0), .inl (k 2, 60, .inr (.inl (fun _ => 0)))), ((rn 1), .inl (k 2, 60, .inr (.inl g_11))), ((rn 2), .inl (k 2, 60, .inr (.inl (fun _ => 0)))), ((rn 3), .inl (k 2, 60, .inr (.inl (fun _ => 0)))), ((o 78), .inl (k 0, 4, .inl f_8)), ((o 79), .inl (k 0, 4, .inl f_9))] → va_S A s.heap H locs → lv_has ls 5 [(4, .int (nI j_10)), (0, .ref (o 10)), (1, .int 1), (2, .int p1), (3, .int p2)] → W p l e (Rm 0 0 0) s m args below meth c H locs 0 0 Q (F0 m 17 ls []) := by
      intro nn
      induction nn with
      | zero => intro j_10 g_11 H locs ls hjj_10 hnj_10; exact absurd hnj_10 (by omega)
      | succ nn ihj_10 =>
        intro j_10 g_11 H locs ls hjj_10 hnj_10 hP hD hS hl
        refine lv_iload hx hb dX6_lay_17 (lv_at hl 0 rfl) ?_
        refine lv_bipush (v := 60) hx hb dX6_lay_19 (by decide) ?_
        refine lv_icmp_ge (tgt := 40) hx hb dX6_lay_21 (by decide) (fun c_13 => ?_) (fun c_13 => ?_)
        · skip
          have c_13 : 60 ≤ j_10 := (ni_le (by decide) rfl (by omega) (by omega)).mp c_13
          exact x_retv S hr hlk hQ hS () trivial (x_B P_nil D_nil) dX6_lay_40
        · skip
          have c_13 : ¬ 60 ≤ j_10 := fun q => c_13 ((ni_le (by decide) rfl (by omega) (by omega)).mpr q)
          refine lv_aload_n hx hb dX6_lay_24 rfl (lv_at hl 1 rfl) ?_
          refine x_get S hK hP 0 rfl cfX6 0 lkX6_11 (by decide) rfl dX6_lay_25 ?_
          refine lv_iload_n hx hb dX6_lay_28 rfl (lv_at hl 2 rfl) ?_
          refine x_Jald (v := (rn 1)) S hK hP 1 rfl (vp_lit (by decide)) rfl dX6_lay_29 ?_
          refine lv_iload hx hb dX6_lay_30 (lv_at hl 0 rfl) ?_
          refine lv_lconst (v := 0) hx hb dX6_lay_32 (by decide) ?_
          refine x_last (ws' := fun f_14 => [((o 10), .inr (6, [.ref (o 77), .ref (o 78), .ref (o 79)])), ((o 77), .inl (k 6, 4, .inr (.inr (.inr (.inr (fun i => if i < 4 then some (rn i) else none)))))), ((rn 0), .inl (k 2, 60, .inr (.inl (fun _ => 0)))), ((rn 1), .inl (k 2, 60, .inr (.inl f_14))), ((rn 2), .inl (k 2, 60, .inr (.inl (fun _ => 0)))), ((rn 3), .inl (k 2, 60, .inr (.inl (fun _ => 0)))), ((o 78), .inl (k 0, 4, .inl f_8)), ((o 79), .inl (k 0, 4, .inl f_9))]) S hK hP hD hS 3 rfl (vp_in_nI (by omega) (by decide)) (fun _ => rfl) dX6_lay_33 (fun f_14 H locs ef_14 hP hD hS => ?_)
          refine lv_iinc (v := (nI (j_10 + 1))) (lv' := [(4, .int (nI (j_10 + 1))), (0, .ref (o 10)), (1, .int 1), (2, .int p1), (3, .int p2)]) hx hb dX6_lay_34 hl (k := 0) rfl (ni_inc _) (by decide) rfl (fun ls hl => ?_)
          refine lv_goto (tgt := 17) hx hb dX6_lay_37 (by decide) ?_
          exact ihj_10 (j_10 + 1) f_14 _ _ _ (by omega) (by omega) hP hD hS (lv_sub hl [0, 1, 2, 3, 4] rfl)
    exact lp_12 (60 + 1) 0 (fun _ => 0) _ _ _ (by omega) (by omega) hP hD hS (lv_sub hl [0, 1, 2, 3, 4] rfl)
  · skip
    have hl : lv_has ls 5 [(0, .ref (o 10)), (1, .int 2), (2, .int p1), (3, .int p2)] := hl
    refine lv_aload_n hx hb dX6_lay_0 rfl (lv_at hl 0 rfl) ?_
    refine x_get S hK hP 0 rfl cfX6 1 lkX6_16 (by decide) rfl dX6_lay_1 ?_
    refine lv_iload_n hx hb dX6_lay_4 rfl (lv_at hl 1 rfl) ?_
    refine lv_iload_n hx hb dX6_lay_5 rfl (lv_at hl 2 rfl) ?_
    refine x_iast (ws' := fun f_15 => [((o 10), .inr (6, [.ref (o 77), .ref (o 78), .ref (o 79)])), ((o 77), .inl (k 6, 4, .inr (.inr (.inr (.inr (fun i => if i < 4 then some (rn i) else none)))))), ((rn 0), .inl (k 2, 60, .inr (.inl (fun _ => 0)))), ((rn 1), .inl (k 2, 60, .inr (.inl (fun _ => 0)))), ((rn 2), .inl (k 2, 60, .inr (.inl (fun _ => 0)))), ((rn 3), .inl (k 2, 60, .inr (.inl (fun _ => 0)))), ((o 78), .inl (k 0, 4, .inl f_15)), ((o 79), .inl (k 0, 4, .inl m1))]) S hK hP hD hS 6 rfl (vp_lit (by decide)) (fun _ => rfl) dX6_lay_6 (fun f_15 H locs ef_15 hP hD hS => ?_)
    refine lv_aload_n hx hb dX6_lay_7 rfl (lv_at hl 0 rfl) ?_
    refine x_get S hK hP 0 rfl cfX6 2 lkX6_20 (by decide) rfl dX6_lay_8 ?_
    refine lv_iload_n hx hb dX6_lay_11 rfl (lv_at hl 1 rfl) ?_
    refine lv_iload_n hx hb dX6_lay_12 rfl (lv_at hl 3 rfl) ?_
    refine x_iast (ws' := fun f_16 => [((o 10), .inr (6, [.ref (o 77), .ref (o 78), .ref (o 79)])), ((o 77), .inl (k 6, 4, .inr (.inr (.inr (.inr (fun i => if i < 4 then some (rn i) else none)))))), ((rn 0), .inl (k 2, 60, .inr (.inl (fun _ => 0)))), ((rn 1), .inl (k 2, 60, .inr (.inl (fun _ => 0)))), ((rn 2), .inl (k 2, 60, .inr (.inl (fun _ => 0)))), ((rn 3), .inl (k 2, 60, .inr (.inl (fun _ => 0)))), ((o 78), .inl (k 0, 4, .inl f_15)), ((o 79), .inl (k 0, 4, .inl f_16))]) S hK hP hD hS 7 rfl (vp_lit (by decide)) (fun _ => rfl) dX6_lay_13 (fun f_16 H locs ef_16 hP hD hS => ?_)
    refine lv_iconst (v := 0) hx hb dX6_lay_14 (by decide) ?_
    refine lv_istore (lv' := [(4, .int 0), (0, .ref (o 10)), (1, .int 2), (2, .int p1), (3, .int p2)]) hx hb dX6_lay_15 hl (by decide) rfl (fun ls hl => ?_)
    have lp_19 : ∀ (nn j_17 : Nat) (g_18 : Nat → Int64) (H : Heap) (locs : List Loc) (ls : Array Slot), j_17 ≤ 60 → 60 - j_17 < nn → va_P D vwCl [((o 10), .inr (6, [.ref (o 77), .ref (o 78), .ref (o 79)])), ((o 77), .inl (k 6, 4, .inr (.inr (.inr (.inr (fun i => if i < 4 then some (rn i) else none)))))), ((rn 0), .inl (k 2, 60, .inr (.inl (fun _ => 0)))), ((rn 1), .inl (k 2, 60, .inr (.inl (fun _ => 0)))), ((rn 2), .inl (k 2, 60, .inr (.inl g_18))), ((rn 3), .inl (k 2, 60, .inr (.inl (fun _ => 0)))), ((o 78), .inl (k 0, 4, .inl f_15)), ((o 79), .inl (k 0, 4, .inl f_16))] H → va_D A [((o 10), .inr (6, [.ref (o 77), .ref (o 78), .ref (o 79)])), ((o 77), .inl (k 6, 4, .inr (.inr (.inr (.inr (fun i => if i < 4 then some (rn i) else none)))))), ((rn 0), .inl (k 2, 60, .inr (.inl (fun _ => 0)))), ((rn 1), .inl (k 2, 60, .inr (.inl (fun _ => 0)))), ((rn 2), .inl (k 2, 60, .inr (.inl g_18))), ((rn 3), .inl (k 2, 60, .inr (.inl (fun _ => 0)))), ((o 78), .inl (k 0, 4, .inl f_15)), ((o 79), .inl (k 0, 4, .inl f_16))] → va_S A s.heap H locs → lv_has ls 5 [(4, .int (nI j_17)), (0, .ref (o 10)), (1, .int 2), (2, .int p1), (3, .int p2)] → W p l e (Rm 0 0 0) s m args below meth c H locs 0 0 Q (F0 m 17 ls []) := by
      intro nn
      induction nn with
      | zero => intro j_17 g_18 H locs ls hjj_17 hnj_17; exact absurd hnj_17 (by omega)
      | succ nn ihj_17 =>
        intro j_17 g_18 H locs ls hjj_17 hnj_17 hP hD hS hl
        refine lv_iload hx hb dX6_lay_17 (lv_at hl 0 rfl) ?_
        refine lv_bipush (v := 60) hx hb dX6_lay_19 (by decide) ?_
        refine lv_icmp_ge (tgt := 40) hx hb dX6_lay_21 (by decide) (fun c_20 => ?_) (fun c_20 => ?_)
        · skip
          have c_20 : 60 ≤ j_17 := (ni_le (by decide) rfl (by omega) (by omega)).mp c_20
          exact x_retv S hr hlk hQ hS () trivial (x_B P_nil D_nil) dX6_lay_40
        · skip
          have c_20 : ¬ 60 ≤ j_17 := fun q => c_20 ((ni_le (by decide) rfl (by omega) (by omega)).mpr q)
          refine lv_aload_n hx hb dX6_lay_24 rfl (lv_at hl 1 rfl) ?_
          refine x_get S hK hP 0 rfl cfX6 0 lkX6_11 (by decide) rfl dX6_lay_25 ?_
          refine lv_iload_n hx hb dX6_lay_28 rfl (lv_at hl 2 rfl) ?_
          refine x_Jald (v := (rn 2)) S hK hP 1 rfl (vp_lit (by decide)) rfl dX6_lay_29 ?_
          refine lv_iload hx hb dX6_lay_30 (lv_at hl 0 rfl) ?_
          refine lv_lconst (v := 0) hx hb dX6_lay_32 (by decide) ?_
          refine x_last (ws' := fun f_21 => [((o 10), .inr (6, [.ref (o 77), .ref (o 78), .ref (o 79)])), ((o 77), .inl (k 6, 4, .inr (.inr (.inr (.inr (fun i => if i < 4 then some (rn i) else none)))))), ((rn 0), .inl (k 2, 60, .inr (.inl (fun _ => 0)))), ((rn 1), .inl (k 2, 60, .inr (.inl (fun _ => 0)))), ((rn 2), .inl (k 2, 60, .inr (.inl f_21))), ((rn 3), .inl (k 2, 60, .inr (.inl (fun _ => 0)))), ((o 78), .inl (k 0, 4, .inl f_15)), ((o 79), .inl (k 0, 4, .inl f_16))]) S hK hP hD hS 4 rfl (vp_in_nI (by omega) (by decide)) (fun _ => rfl) dX6_lay_33 (fun f_21 H locs ef_21 hP hD hS => ?_)
          refine lv_iinc (v := (nI (j_17 + 1))) (lv' := [(4, .int (nI (j_17 + 1))), (0, .ref (o 10)), (1, .int 2), (2, .int p1), (3, .int p2)]) hx hb dX6_lay_34 hl (k := 0) rfl (ni_inc _) (by decide) rfl (fun ls hl => ?_)
          refine lv_goto (tgt := 17) hx hb dX6_lay_37 (by decide) ?_
          exact ihj_17 (j_17 + 1) f_21 _ _ _ (by omega) (by omega) hP hD hS (lv_sub hl [0, 1, 2, 3, 4] rfl)
    exact lp_19 (60 + 1) 0 (fun _ => 0) _ _ _ (by omega) (by omega) hP hD hS (lv_sub hl [0, 1, 2, 3, 4] rfl)
  · skip
    have hl : lv_has ls 5 [(0, .ref (o 10)), (1, .int 3), (2, .int p1), (3, .int p2)] := hl
    refine lv_aload_n hx hb dX6_lay_0 rfl (lv_at hl 0 rfl) ?_
    refine x_get S hK hP 0 rfl cfX6 1 lkX6_16 (by decide) rfl dX6_lay_1 ?_
    refine lv_iload_n hx hb dX6_lay_4 rfl (lv_at hl 1 rfl) ?_
    refine lv_iload_n hx hb dX6_lay_5 rfl (lv_at hl 2 rfl) ?_
    refine x_iast (ws' := fun f_22 => [((o 10), .inr (6, [.ref (o 77), .ref (o 78), .ref (o 79)])), ((o 77), .inl (k 6, 4, .inr (.inr (.inr (.inr (fun i => if i < 4 then some (rn i) else none)))))), ((rn 0), .inl (k 2, 60, .inr (.inl (fun _ => 0)))), ((rn 1), .inl (k 2, 60, .inr (.inl (fun _ => 0)))), ((rn 2), .inl (k 2, 60, .inr (.inl (fun _ => 0)))), ((rn 3), .inl (k 2, 60, .inr (.inl (fun _ => 0)))), ((o 78), .inl (k 0, 4, .inl f_22)), ((o 79), .inl (k 0, 4, .inl m1))]) S hK hP hD hS 6 rfl (vp_lit (by decide)) (fun _ => rfl) dX6_lay_6 (fun f_22 H locs ef_22 hP hD hS => ?_)
    refine lv_aload_n hx hb dX6_lay_7 rfl (lv_at hl 0 rfl) ?_
    refine x_get S hK hP 0 rfl cfX6 2 lkX6_20 (by decide) rfl dX6_lay_8 ?_
    refine lv_iload_n hx hb dX6_lay_11 rfl (lv_at hl 1 rfl) ?_
    refine lv_iload_n hx hb dX6_lay_12 rfl (lv_at hl 3 rfl) ?_
    refine x_iast (ws' := fun f_23 => [((o 10), .inr (6, [.ref (o 77), .ref (o 78), .ref (o 79)])), ((o 77), .inl (k 6, 4, .inr (.inr (.inr (.inr (fun i => if i < 4 then some (rn i) else none)))))), ((rn 0), .inl (k 2, 60, .inr (.inl (fun _ => 0)))), ((rn 1), .inl (k 2, 60, .inr (.inl (fun _ => 0)))), ((rn 2), .inl (k 2, 60, .inr (.inl (fun _ => 0)))), ((rn 3), .inl (k 2, 60, .inr (.inl (fun _ => 0)))), ((o 78), .inl (k 0, 4, .inl f_22)), ((o 79), .inl (k 0, 4, .inl f_23))]) S hK hP hD hS 7 rfl (vp_lit (by decide)) (fun _ => rfl) dX6_lay_13 (fun f_23 H locs ef_23 hP hD hS => ?_)
    refine lv_iconst (v := 0) hx hb dX6_lay_14 (by decide) ?_
    refine lv_istore (lv' := [(4, .int 0), (0, .ref (o 10)), (1, .int 3), (2, .int p1), (3, .int p2)]) hx hb dX6_lay_15 hl (by decide) rfl (fun ls hl => ?_)
    have lp_26 : ∀ (nn j_24 : Nat) (g_25 : Nat → Int64) (H : Heap) (locs : List Loc) (ls : Array Slot), j_24 ≤ 60 → 60 - j_24 < nn → va_P D vwCl [((o 10), .inr (6, [.ref (o 77), .ref (o 78), .ref (o 79)])), ((o 77), .inl (k 6, 4, .inr (.inr (.inr (.inr (fun i => if i < 4 then some (rn i) else none)))))), ((rn 0), .inl (k 2, 60, .inr (.inl (fun _ => 0)))), ((rn 1), .inl (k 2, 60, .inr (.inl (fun _ => 0)))), ((rn 2), .inl (k 2, 60, .inr (.inl (fun _ => 0)))), ((rn 3), .inl (k 2, 60, .inr (.inl g_25))), ((o 78), .inl (k 0, 4, .inl f_22)), ((o 79), .inl (k 0, 4, .inl f_23))] H → va_D A [((o 10), .inr (6, [.ref (o 77), .ref (o 78), .ref (o 79)])), ((o 77), .inl (k 6, 4, .inr (.inr (.inr (.inr (fun i => if i < 4 then some (rn i) else none)))))), ((rn 0), .inl (k 2, 60, .inr (.inl (fun _ => 0)))), ((rn 1), .inl (k 2, 60, .inr (.inl (fun _ => 0)))), ((rn 2), .inl (k 2, 60, .inr (.inl (fun _ => 0)))), ((rn 3), .inl (k 2, 60, .inr (.inl g_25))), ((o 78), .inl (k 0, 4, .inl f_22)), ((o 79), .inl (k 0, 4, .inl f_23))] → va_S A s.heap H locs → lv_has ls 5 [(4, .int (nI j_24)), (0, .ref (o 10)), (1, .int 3), (2, .int p1), (3, .int p2)] → W p l e (Rm 0 0 0) s m args below meth c H locs 0 0 Q (F0 m 17 ls []) := by
      intro nn
      induction nn with
      | zero => intro j_24 g_25 H locs ls hjj_24 hnj_24; exact absurd hnj_24 (by omega)
      | succ nn ihj_24 =>
        intro j_24 g_25 H locs ls hjj_24 hnj_24 hP hD hS hl
        refine lv_iload hx hb dX6_lay_17 (lv_at hl 0 rfl) ?_
        refine lv_bipush (v := 60) hx hb dX6_lay_19 (by decide) ?_
        refine lv_icmp_ge (tgt := 40) hx hb dX6_lay_21 (by decide) (fun c_27 => ?_) (fun c_27 => ?_)
        · skip
          have c_27 : 60 ≤ j_24 := (ni_le (by decide) rfl (by omega) (by omega)).mp c_27
          exact x_retv S hr hlk hQ hS () trivial (x_B P_nil D_nil) dX6_lay_40
        · skip
          have c_27 : ¬ 60 ≤ j_24 := fun q => c_27 ((ni_le (by decide) rfl (by omega) (by omega)).mpr q)
          refine lv_aload_n hx hb dX6_lay_24 rfl (lv_at hl 1 rfl) ?_
          refine x_get S hK hP 0 rfl cfX6 0 lkX6_11 (by decide) rfl dX6_lay_25 ?_
          refine lv_iload_n hx hb dX6_lay_28 rfl (lv_at hl 2 rfl) ?_
          refine x_Jald (v := (rn 3)) S hK hP 1 rfl (vp_lit (by decide)) rfl dX6_lay_29 ?_
          refine lv_iload hx hb dX6_lay_30 (lv_at hl 0 rfl) ?_
          refine lv_lconst (v := 0) hx hb dX6_lay_32 (by decide) ?_
          refine x_last (ws' := fun f_28 => [((o 10), .inr (6, [.ref (o 77), .ref (o 78), .ref (o 79)])), ((o 77), .inl (k 6, 4, .inr (.inr (.inr (.inr (fun i => if i < 4 then some (rn i) else none)))))), ((rn 0), .inl (k 2, 60, .inr (.inl (fun _ => 0)))), ((rn 1), .inl (k 2, 60, .inr (.inl (fun _ => 0)))), ((rn 2), .inl (k 2, 60, .inr (.inl (fun _ => 0)))), ((rn 3), .inl (k 2, 60, .inr (.inl f_28))), ((o 78), .inl (k 0, 4, .inl f_22)), ((o 79), .inl (k 0, 4, .inl f_23))]) S hK hP hD hS 5 rfl (vp_in_nI (by omega) (by decide)) (fun _ => rfl) dX6_lay_33 (fun f_28 H locs ef_28 hP hD hS => ?_)
          refine lv_iinc (v := (nI (j_24 + 1))) (lv' := [(4, .int (nI (j_24 + 1))), (0, .ref (o 10)), (1, .int 3), (2, .int p1), (3, .int p2)]) hx hb dX6_lay_34 hl (k := 0) rfl (ni_inc _) (by decide) rfl (fun ls hl => ?_)
          refine lv_goto (tgt := 17) hx hb dX6_lay_37 (by decide) ?_
          exact ihj_24 (j_24 + 1) f_28 _ _ _ (by omega) (by omega) hP hD hS (lv_sub hl [0, 1, 2, 3, 4] rfl)
    exact lp_26 (60 + 1) 0 (fun _ => 0) _ _ _ (by omega) (by omega) hP hD hS (lv_sub hl [0, 1, 2, 3, 4] rfl)

theorem lfctX10_row_0 (p0 : Int32) (p1 : Int32) (p2 : Int32) (c_2 : ¬ (0 ≤ p0 ∧ p0 < 4)) : (-2) = (rowAns p0 p1 p2) := (by
  simp only [rowAns]
  repeat' split
  all_goals first | rfl | assumption | (exfalso; simp only [fa_lt, fa_le, fa_eq, fa_lt64, fa_le64, fa_eq64, Int32.toInt_toInt64, tz_0, tz_1, tz_2, tz_3, tz_4, tz_5, tz_6, tz_7, tz_8, tz_9, tz_10, tz_60, tz_m1, tl_0, tl_1, tl_2, tl_3, tl_4, tl_5, tl_6, tl_7, tl_8, tl_9, tl_10, tl_60, tl_m1] at * <;> omega))
theorem lfctX10_row_1 (p0 : Int32) (p1 : Int32) (p2 : Int32) (c_2 : 0 ≤ p0 ∧ p0 < 4) (c_3 : p1 < 0) : (-2) = (rowAns p0 p1 p2) := (by
  simp only [rowAns]
  repeat' split
  all_goals first | rfl | assumption | (exfalso; simp only [fa_lt, fa_le, fa_eq, fa_lt64, fa_le64, fa_eq64, Int32.toInt_toInt64, tz_0, tz_1, tz_2, tz_3, tz_4, tz_5, tz_6, tz_7, tz_8, tz_9, tz_10, tz_60, tz_m1, tl_0, tl_1, tl_2, tl_3, tl_4, tl_5, tl_6, tl_7, tl_8, tl_9, tl_10, tl_60, tl_m1] at * <;> omega))
theorem lfctX10_row_2 (p0 : Int32) (p1 : Int32) (p2 : Int32) (c_2 : 0 ≤ p0 ∧ p0 < 4) (c_3 : ¬ p1 < 0) (c_4 : 4 ≤ p1) : (-2) = (rowAns p0 p1 p2) := (by
  simp only [rowAns]
  repeat' split
  all_goals first | rfl | assumption | (exfalso; simp only [fa_lt, fa_le, fa_eq, fa_lt64, fa_le64, fa_eq64, Int32.toInt_toInt64, tz_0, tz_1, tz_2, tz_3, tz_4, tz_5, tz_6, tz_7, tz_8, tz_9, tz_10, tz_60, tz_m1, tl_0, tl_1, tl_2, tl_3, tl_4, tl_5, tl_6, tl_7, tl_8, tl_9, tl_10, tl_60, tl_m1] at * <;> omega))
theorem lfctX10_row_3 (p0 : Int32) (p1 : Int32) (p2 : Int32) (c_2 : 0 ≤ p0 ∧ p0 < 4) (c_3 : ¬ p1 < 0) (c_4 : ¬ 4 ≤ p1) (c_5 : p2 ≤ 60) (c_6 : 0 ≤ p2) : 0 = (rowAns p0 p1 p2) := (by
  simp only [rowAns]
  repeat' split
  all_goals first | rfl | assumption | (exfalso; simp only [fa_lt, fa_le, fa_eq, fa_lt64, fa_le64, fa_eq64, Int32.toInt_toInt64, tz_0, tz_1, tz_2, tz_3, tz_4, tz_5, tz_6, tz_7, tz_8, tz_9, tz_10, tz_60, tz_m1, tl_0, tl_1, tl_2, tl_3, tl_4, tl_5, tl_6, tl_7, tl_8, tl_9, tl_10, tl_60, tl_m1] at * <;> omega))
theorem lfctX10_row_4 (p0 : Int32) (p1 : Int32) (p2 : Int32) (c_2 : 0 ≤ p0 ∧ p0 < 4) (c_3 : ¬ p1 < 0) (c_4 : ¬ 4 ≤ p1) (c_5 : p2 ≤ 60) (c_6 : ¬ 0 ≤ p2) : (-3) = (rowAns p0 p1 p2) := (by
  simp only [rowAns]
  repeat' split
  all_goals first | rfl | assumption | (exfalso; simp only [fa_lt, fa_le, fa_eq, fa_lt64, fa_le64, fa_eq64, Int32.toInt_toInt64, tz_0, tz_1, tz_2, tz_3, tz_4, tz_5, tz_6, tz_7, tz_8, tz_9, tz_10, tz_60, tz_m1, tl_0, tl_1, tl_2, tl_3, tl_4, tl_5, tl_6, tl_7, tl_8, tl_9, tl_10, tl_60, tl_m1] at * <;> omega))
theorem lfctX10_row_5 (p0 : Int32) (p1 : Int32) (p2 : Int32) (c_2 : 0 ≤ p0 ∧ p0 < 4) (c_3 : ¬ p1 < 0) (c_4 : ¬ 4 ≤ p1) (c_5 : ¬ p2 ≤ 60) : (-2) = (rowAns p0 p1 p2) := (by
  simp only [rowAns]
  repeat' split
  all_goals first | rfl | assumption | (exfalso; simp only [fa_lt, fa_le, fa_eq, fa_lt64, fa_le64, fa_eq64, Int32.toInt_toInt64, tz_0, tz_1, tz_2, tz_3, tz_4, tz_5, tz_6, tz_7, tz_8, tz_9, tz_10, tz_60, tz_m1, tl_0, tl_1, tl_2, tl_3, tl_4, tl_5, tl_6, tl_7, tl_8, tl_9, tl_10, tl_60, tl_m1] at * <;> omega))
set_option maxHeartbeats 4000000 in
set_option maxRecDepth 100000 in
theorem ctX10_row (l : Launch) (D : va_G) (k : Nat → ClassId) (o : Nat → Nat) (rn : Nat → Nat) (p0 : Int32) (p1 : Int32) (p2 : Int32)  : MU l yX10_row cX10_row 4 (some .int) 1 D k [.ref (o 0), .int p0, .int p1, .int p2] [((o 0), .inr (10, [.ref (o 1), .ref (o 2), .ref (o 3), .ref (o 4), .ref (o 5), .ref (o 6), .ref (o 7), .ref (o 8), .ref (o 9), .ref (o 10), .ref (o 11), .ref (o 12), .ref (o 13), .ref (o 14)])), ((o 10), .inr (6, [.ref (o 77), .ref (o 78), .ref (o 79)])), ((o 77), .inl (k 6, 4, .inr (.inr (.inr (.inr (fun i => if i < 4 then some (rn i) else none)))))), ((rn 0), .inl (k 2, 60, .inr (.inl (fun _ => 0)))), ((rn 1), .inl (k 2, 60, .inr (.inl (fun _ => 0)))), ((rn 2), .inl (k 2, 60, .inr (.inl (fun _ => 0)))), ((rn 3), .inl (k 2, 60, .inr (.inl (fun _ => 0)))), ((o 78), .inl (k 0, 4, .inl (fun _ => 0))), ((o 79), .inl (k 0, 4, .inl m1))] 0 0 (Ui D (fun (r : Int32) (u : Unit) => r = (rowAns p0 p1 p2)) (fun _ : Unit => [])) := by
  refine MU.of (by decide) (Nat.le_of_ble_eq_true rfl) ?_
  intro p e s m below meth c ls A args Q S hr hlk hnm hQ hK hP hD hA hS hl
  have hx := S.1
  have hb := S.2.1
  have hl : lv_has ls 4 [(0, .ref (o 0)), (1, .int p0), (2, .int p1), (3, .int p2)] := hl
  refine lv_iload_n hx hb dX10_row_0 rfl (lv_at hl 1 rfl) ?_
  refine x_roSi (As := [.int p0]) S hK hP hS hA hl mwX10_isSlot lkX10_435 (ctX10_isSlot l D k p0 ) [] rfl D_nil rfl rfl ⟨Nat.le_of_ble_eq_true rfl, Nat.le_of_ble_eq_true rfl, Nat.le_of_ble_eq_true rfl⟩ dX10_row_1 ⟨Nat.le_of_ble_eq_true rfl, Nat.le_of_ble_eq_true rfl⟩ (fun r_1 H locs hr_1 hP hS => ?_)
  subst hr_1
  refine lv_if_eq (tgt := 22) hx hb dX10_row_4 (by decide) (fun c_2 => ?_) (fun c_2 => ?_)
  · skip
    have c_2 : ¬ (0 ≤ p0 ∧ p0 < 4) := bo_0.mp c_2
    refine lv_bipush (v := (-2)) hx hb dX10_row_22 (by decide) ?_
    exact x_reti S hr hlk hQ hS () (lfctX10_row_0 p0 p1 p2 c_2) (x_B P_nil D_nil) dX10_row_24
  · skip
    have c_2 : 0 ≤ p0 ∧ p0 < 4 := bo_1.mp c_2
    refine lv_iload_n hx hb dX10_row_7 rfl (lv_at hl 2 rfl) ?_
    refine lv_if_lt (tgt := 22) hx hb dX10_row_8 (by decide) (fun c_3 => ?_) (fun c_3 => ?_)
    · skip
      refine lv_bipush (v := (-2)) hx hb dX10_row_22 (by decide) ?_
      exact x_reti S hr hlk hQ hS () (lfctX10_row_1 p0 p1 p2 c_2 c_3) (x_B P_nil D_nil) dX10_row_24
    · skip
      refine lv_iload_n hx hb dX10_row_11 rfl (lv_at hl 2 rfl) ?_
      refine lv_iconst (v := 4) hx hb dX10_row_12 (by decide) ?_
      refine lv_icmp_ge (tgt := 22) hx hb dX10_row_13 (by decide) (fun c_4 => ?_) (fun c_4 => ?_)
      · skip
        refine lv_bipush (v := (-2)) hx hb dX10_row_22 (by decide) ?_
        exact x_reti S hr hlk hQ hS () (lfctX10_row_2 p0 p1 p2 c_2 c_3 c_4) (x_B P_nil D_nil) dX10_row_24
      · skip
        refine lv_iload_n hx hb dX10_row_16 rfl (lv_at hl 3 rfl) ?_
        refine lv_bipush (v := 60) hx hb dX10_row_17 (by decide) ?_
        refine lv_icmp_le (tgt := 25) hx hb dX10_row_19 (by decide) (fun c_5 => ?_) (fun c_5 => ?_)
        · skip
          refine lv_iload_n hx hb dX10_row_25 rfl (lv_at hl 3 rfl) ?_
          refine lv_if_ge (tgt := 32) hx hb dX10_row_26 (by decide) (fun c_6 => ?_) (fun c_6 => ?_)
          · skip
            obtain ⟨j, hj, ej⟩ : ∃ j : Nat, j < 4 ∧ p0 = nI j := nat4 c_2
            have hl : lv_has ls 4 [(0, .ref (o 0)), (1, .int (nI j)), (2, .int p1), (3, .int p2)] := by rw [ej] at hl; exact hl
            refine lv_aload_n hx hb dX10_row_32 rfl (lv_at hl 0 rfl) ?_
            refine x_get S hK hP 0 rfl cfX10 9 lkX10_73 (by decide) rfl dX10_row_33 ?_
            refine lv_iload_n hx hb dX10_row_36 rfl (lv_at hl 1 rfl) ?_
            refine lv_iload_n hx hb dX10_row_37 rfl (lv_at hl 2 rfl) ?_
            refine lv_iload_n hx hb dX10_row_38 rfl (lv_at hl 3 rfl) ?_
            refine x_muVv (wr := [((o 0), .inr (10, [.ref (o 1), .ref (o 2), .ref (o 3), .ref (o 4), .ref (o 5), .ref (o 6), .ref (o 7), .ref (o 8), .ref (o 9), .ref (o 10), .ref (o 11), .ref (o 12), .ref (o 13), .ref (o 14)]))]) (As := [.int (nI j), .int p1, .int p2]) S hK hP hD hS hA hl mwX6_lay lkX10_438 (ctX6_lay l D k o rn j p1 p2 (by omega)) [1, 2, 3, 4, 5, 6, 7, 8] [0] rfl rfl (by decide) (by decide) (by decide) rfl rfl rfl rfl rfl ⟨Nat.le_of_ble_eq_true rfl, Nat.le_of_ble_eq_true rfl, Nat.le_of_ble_eq_true rfl⟩ dX10_row_39 ⟨Nat.le_of_ble_eq_true rfl, Nat.le_of_ble_eq_true rfl⟩ (fun u_8 H locs hr_7 hP hD hS => ?_)
            have hP : va_P D vwCl [((o 0), .inr (10, [.ref (o 1), .ref (o 2), .ref (o 3), .ref (o 4), .ref (o 5), .ref (o 6), .ref (o 7), .ref (o 8), .ref (o 9), .ref (o 10), .ref (o 11), .ref (o 12), .ref (o 13), .ref (o 14)]))] H := hP
            have hD : va_D A [((o 0), .inr (10, [.ref (o 1), .ref (o 2), .ref (o 3), .ref (o 4), .ref (o 5), .ref (o 6), .ref (o 7), .ref (o 8), .ref (o 9), .ref (o 10), .ref (o 11), .ref (o 12), .ref (o 13), .ref (o 14)]))] := hD
            refine lv_iconst (v := 0) hx hb dX10_row_42 (by decide) ?_
            exact x_reti S hr hlk hQ hS () (lfctX10_row_3 p0 p1 p2 c_2 c_3 c_4 c_5 c_6) (x_B P_nil D_nil) dX10_row_43
          · skip
            refine lv_bipush (v := (-3)) hx hb dX10_row_29 (by decide) ?_
            exact x_reti S hr hlk hQ hS () (lfctX10_row_4 p0 p1 p2 c_2 c_3 c_4 c_5 c_6) (x_B P_nil D_nil) dX10_row_31
        · skip
          refine lv_bipush (v := (-2)) hx hb dX10_row_22 (by decide) ?_
          exact x_reti S hr hlk hQ hS () (lfctX10_row_5 p0 p1 p2 c_2 c_3 c_4 c_5) (x_B P_nil D_nil) dX10_row_24

theorem lfctX10_back_0 (p0 : Int32) (c_1 : p0 < 0) : (-2) = (backAns p0) := (by
  simp only [backAns]
  repeat' split
  all_goals first | rfl | assumption | (exfalso; simp only [fa_lt, fa_le, fa_eq, fa_lt64, fa_le64, fa_eq64, Int32.toInt_toInt64, tz_0, tz_1, tz_2, tz_3, tz_4, tz_5, tz_6, tz_7, tz_8, tz_9, tz_10, tz_60, tz_m1, tl_0, tl_1, tl_2, tl_3, tl_4, tl_5, tl_6, tl_7, tl_8, tl_9, tl_10, tl_60, tl_m1] at * <;> omega))
theorem lfctX10_back_1 (p0 : Int32) (c_1 : ¬ p0 < 0) (c_2 : p0 < 3) (e_3 : p0 = 0) : (-6) = (backAns p0) := (by
  simp only [backAns]
  repeat' split
  all_goals first | rfl | assumption | (exfalso; simp only [fa_lt, fa_le, fa_eq, fa_lt64, fa_le64, fa_eq64, Int32.toInt_toInt64, tz_0, tz_1, tz_2, tz_3, tz_4, tz_5, tz_6, tz_7, tz_8, tz_9, tz_10, tz_60, tz_m1, tl_0, tl_1, tl_2, tl_3, tl_4, tl_5, tl_6, tl_7, tl_8, tl_9, tl_10, tl_60, tl_m1] at * <;> omega))
theorem lfctX10_back_2 (p0 : Int32) (c_1 : ¬ p0 < 0) (c_2 : p0 < 3) (e_4 : p0 = 1) : (-6) = (backAns p0) := (by
  simp only [backAns]
  repeat' split
  all_goals first | rfl | assumption | (exfalso; simp only [fa_lt, fa_le, fa_eq, fa_lt64, fa_le64, fa_eq64, Int32.toInt_toInt64, tz_0, tz_1, tz_2, tz_3, tz_4, tz_5, tz_6, tz_7, tz_8, tz_9, tz_10, tz_60, tz_m1, tl_0, tl_1, tl_2, tl_3, tl_4, tl_5, tl_6, tl_7, tl_8, tl_9, tl_10, tl_60, tl_m1] at * <;> omega))
theorem lfctX10_back_3 (p0 : Int32) (c_1 : ¬ p0 < 0) (c_2 : p0 < 3) (e_5 : p0 = 2) : (-6) = (backAns p0) := (by
  simp only [backAns]
  repeat' split
  all_goals first | rfl | assumption | (exfalso; simp only [fa_lt, fa_le, fa_eq, fa_lt64, fa_le64, fa_eq64, Int32.toInt_toInt64, tz_0, tz_1, tz_2, tz_3, tz_4, tz_5, tz_6, tz_7, tz_8, tz_9, tz_10, tz_60, tz_m1, tl_0, tl_1, tl_2, tl_3, tl_4, tl_5, tl_6, tl_7, tl_8, tl_9, tl_10, tl_60, tl_m1] at * <;> omega))
theorem lfctX10_back_4 (p0 : Int32) (c_1 : ¬ p0 < 0) (c_2 : ¬ p0 < 3) : (-2) = (backAns p0) := (by
  simp only [backAns]
  repeat' split
  all_goals first | rfl | assumption | (exfalso; simp only [fa_lt, fa_le, fa_eq, fa_lt64, fa_le64, fa_eq64, Int32.toInt_toInt64, tz_0, tz_1, tz_2, tz_3, tz_4, tz_5, tz_6, tz_7, tz_8, tz_9, tz_10, tz_60, tz_m1, tl_0, tl_1, tl_2, tl_3, tl_4, tl_5, tl_6, tl_7, tl_8, tl_9, tl_10, tl_60, tl_m1] at * <;> omega))
set_option maxHeartbeats 4000000 in
set_option maxRecDepth 100000 in
theorem ctX10_back (l : Launch) (D : va_G) (k : Nat → ClassId) (o : Nat → Nat) (p0 : Int32)  : RO l yX10_back cX10_back 2 (some .int) 0 D k [.ref (o 0), .int p0] [((o 0), .inr (10, [.ref (o 1), .ref (o 2), .ref (o 3), .ref (o 4), .ref (o 5), .ref (o 6), .ref (o 7), .ref (o 8), .ref (o 9), .ref (o 10), .ref (o 11), .ref (o 12), .ref (o 13), .ref (o 14)])), ((o 14), .inl (k 3, 3, .inl (fun _ => 0)))] (Qi (fun r : Int32 => r = (backAns p0))) := by
  refine RO.of (by decide) (Nat.le_of_ble_eq_true rfl) ?_
  intro p e s m below meth c ls A args Q S hr hlk hQ hK hP hDW hA hS hl
  have hx := S.1
  have hb := S.2.1
  have hl : lv_has ls 2 [(0, .ref (o 0)), (1, .int p0)] := hl
  refine lv_iload_n hx hb dX10_back_0 rfl (lv_at hl 1 rfl) ?_
  refine lv_if_lt (tgt := 9) hx hb dX10_back_1 (by decide) (fun c_1 => ?_) (fun c_1 => ?_)
  · skip
    refine lv_bipush (v := (-2)) hx hb dX10_back_9 (by decide) ?_
    exact x_reti S hr hlk hQ hS () (lfctX10_back_0 p0 c_1) x_T dX10_back_11
  · skip
    refine lv_iload_n hx hb dX10_back_4 rfl (lv_at hl 1 rfl) ?_
    refine lv_iconst (v := 3) hx hb dX10_back_5 (by decide) ?_
    refine lv_icmp_lt (tgt := 12) hx hb dX10_back_6 (by decide) (fun c_2 => ?_) (fun c_2 => ?_)
    · skip
      rcases (three c_1 c_2) with e_3 | e_4 | e_5
      · skip
        have hl : lv_has ls 2 [(0, .ref (o 0)), (1, .int 0)] := by rw [e_3] at hl; exact hl
        refine lv_aload_n hx hb dX10_back_12 rfl (lv_at hl 0 rfl) ?_
        refine x_get S hK hP 0 rfl cfX10 13 lkX10_99 (by decide) rfl dX10_back_13 ?_
        refine lv_iload_n hx hb dX10_back_16 rfl (lv_at hl 1 rfl) ?_
        refine x_zald S hK hP 1 rfl (vp_lit (by decide)) dX10_back_17 ?_
        refine x_is 0 rfl ?_
        refine lv_if_ne (tgt := 24) hx hb dX10_back_18 (by decide) (fun c_6 => absurd (by decide) c_6) (fun c_6 => ?_)
        refine lv_bipush (v := (-6)) hx hb dX10_back_21 (by decide) ?_
        exact x_reti S hr hlk hQ hS () (lfctX10_back_1 p0 c_1 c_2 e_3) x_T dX10_back_23
      · skip
        have hl : lv_has ls 2 [(0, .ref (o 0)), (1, .int 1)] := by rw [e_4] at hl; exact hl
        refine lv_aload_n hx hb dX10_back_12 rfl (lv_at hl 0 rfl) ?_
        refine x_get S hK hP 0 rfl cfX10 13 lkX10_99 (by decide) rfl dX10_back_13 ?_
        refine lv_iload_n hx hb dX10_back_16 rfl (lv_at hl 1 rfl) ?_
        refine x_zald S hK hP 1 rfl (vp_lit (by decide)) dX10_back_17 ?_
        refine x_is 0 rfl ?_
        refine lv_if_ne (tgt := 24) hx hb dX10_back_18 (by decide) (fun c_7 => absurd (by decide) c_7) (fun c_7 => ?_)
        refine lv_bipush (v := (-6)) hx hb dX10_back_21 (by decide) ?_
        exact x_reti S hr hlk hQ hS () (lfctX10_back_2 p0 c_1 c_2 e_4) x_T dX10_back_23
      · skip
        have hl : lv_has ls 2 [(0, .ref (o 0)), (1, .int 2)] := by rw [e_5] at hl; exact hl
        refine lv_aload_n hx hb dX10_back_12 rfl (lv_at hl 0 rfl) ?_
        refine x_get S hK hP 0 rfl cfX10 13 lkX10_99 (by decide) rfl dX10_back_13 ?_
        refine lv_iload_n hx hb dX10_back_16 rfl (lv_at hl 1 rfl) ?_
        refine x_zald S hK hP 1 rfl (vp_lit (by decide)) dX10_back_17 ?_
        refine x_is 0 rfl ?_
        refine lv_if_ne (tgt := 24) hx hb dX10_back_18 (by decide) (fun c_8 => absurd (by decide) c_8) (fun c_8 => ?_)
        refine lv_bipush (v := (-6)) hx hb dX10_back_21 (by decide) ?_
        exact x_reti S hr hlk hQ hS () (lfctX10_back_3 p0 c_1 c_2 e_5) x_T dX10_back_23
    · skip
      refine lv_bipush (v := (-2)) hx hb dX10_back_9 (by decide) ?_
      exact x_reti S hr hlk hQ hS () (lfctX10_back_4 p0 c_1 c_2) x_T dX10_back_11

set_option maxHeartbeats 4000000 in
set_option maxRecDepth 100000 in
theorem ctX2_copy (l : Launch) (D : va_G) (k : Nat → ClassId) (a : Nat → Nat) (b : Nat → Nat) (v0 : Int32) (v1 : Int32) (v2 : Int32) (v3 : Int32) (v4 : Int32) (v5 : Int32) (v6 : Int32) (v7 : Int32) (v8 : Int32) (w0 : Int32) (w1 : Int32) (w2 : Int32) (w3 : Int32) (w4 : Int32) (w5 : Int32) (w6 : Int32) (w7 : Int32) (w8 : Int32) (f0 : Nat → Int32) (f1 : Nat → Int32) (f2 : Nat → Int32) (f3 : Nat → Int32) (f4 : Nat → Int32) (f5 : Nat → Int32) (f6 : Nat → Int32) (f7 : Nat → Int32) (f8 : Nat → Int32) (f9 : Nat → Int32) (g0 : Nat → Int32) (g1 : Nat → Int32) (g2 : Nat → Int32) (g3 : Nat → Int32) (g4 : Nat → Int32) (g5 : Nat → Int32) (g6 : Nat → Int32) (g7 : Nat → Int32) (g8 : Nat → Int32) (g9 : Nat → Int32)  : MU l yX2_copy cX2_copy 2 none 1 D k [.ref (a 0), .ref (b 0)] [((a 0), .inr (2, [.int v0, .int v1, .int v2, .int v3, .int v4, .int v5, .int v6, .int v7, .int v8, .ref (a 1), .ref (a 2), .ref (a 3), .ref (a 4), .ref (a 5), .ref (a 6), .ref (a 7), .ref (a 8), .ref (a 9), .ref (a 10)])), ((a 1), .inl (k 0, 12, .inl f0)), ((a 2), .inl (k 0, 12, .inl f1)), ((a 3), .inl (k 0, 12, .inl f2)), ((a 4), .inl (k 0, 12, .inl f3)), ((a 5), .inl (k 0, 12, .inl f4)), ((a 6), .inl (k 0, 12, .inl f5)), ((a 7), .inl (k 0, 4, .inl f6)), ((a 8), .inl (k 0, 42, .inl f7)), ((a 9), .inl (k 0, 42, .inl f8)), ((a 10), .inl (k 0, 42, .inl f9)), ((b 0), .inr (2, [.int w0, .int w1, .int w2, .int w3, .int w4, .int w5, .int w6, .int w7, .int w8, .ref (b 1), .ref (b 2), .ref (b 3), .ref (b 4), .ref (b 5), .ref (b 6), .ref (b 7), .ref (b 8), .ref (b 9), .ref (b 10)])), ((b 1), .inl (k 0, 12, .inl g0)), ((b 2), .inl (k 0, 12, .inl g1)), ((b 3), .inl (k 0, 12, .inl g2)), ((b 4), .inl (k 0, 12, .inl g3)), ((b 5), .inl (k 0, 12, .inl g4)), ((b 6), .inl (k 0, 12, .inl g5)), ((b 7), .inl (k 0, 4, .inl g6)), ((b 8), .inl (k 0, 42, .inl g7)), ((b 9), .inl (k 0, 42, .inl g8)), ((b 10), .inl (k 0, 42, .inl g9))] 0 0 (Uv D (fun _ : Nat → Nat → Int32 => True) (fun u : Nat → Nat → Int32 => [((a 0), .inr (2, [.int w0, .int w1, .int w2, .int w3, .int w4, .int w5, .int w6, .int w7, .int w8, .ref (a 1), .ref (a 2), .ref (a 3), .ref (a 4), .ref (a 5), .ref (a 6), .ref (a 7), .ref (a 8), .ref (a 9), .ref (a 10)])), ((a 1), .inl (k 0, 12, .inl (u 0))), ((a 2), .inl (k 0, 12, .inl (u 1))), ((a 3), .inl (k 0, 12, .inl (u 2))), ((a 4), .inl (k 0, 12, .inl (u 3))), ((a 5), .inl (k 0, 12, .inl (u 4))), ((a 6), .inl (k 0, 12, .inl (u 5))), ((a 7), .inl (k 0, 4, .inl (u 6))), ((a 8), .inl (k 0, 42, .inl (u 7))), ((a 9), .inl (k 0, 42, .inl (u 8))), ((a 10), .inl (k 0, 42, .inl (u 9))), ((b 0), .inr (2, [.int w0, .int w1, .int w2, .int w3, .int w4, .int w5, .int w6, .int w7, .int w8, .ref (b 1), .ref (b 2), .ref (b 3), .ref (b 4), .ref (b 5), .ref (b 6), .ref (b 7), .ref (b 8), .ref (b 9), .ref (b 10)])), ((b 1), .inl (k 0, 12, .inl g0)), ((b 2), .inl (k 0, 12, .inl g1)), ((b 3), .inl (k 0, 12, .inl g2)), ((b 4), .inl (k 0, 12, .inl g3)), ((b 5), .inl (k 0, 12, .inl g4)), ((b 6), .inl (k 0, 12, .inl g5)), ((b 7), .inl (k 0, 4, .inl g6)), ((b 8), .inl (k 0, 42, .inl g7)), ((b 9), .inl (k 0, 42, .inl g8)), ((b 10), .inl (k 0, 42, .inl g9))])) := by
  refine MU.of (by decide) (Nat.le_of_ble_eq_true rfl) ?_
  intro p e s m below meth c ls A args Q S hr hlk hnm hQ hK hP hD hA hS hl
  have hx := S.1
  have hb := S.2.1
  have hl : lv_has ls 2 [(0, .ref (a 0)), (1, .ref (b 0))] := hl
  refine lv_aload_n hx hb dX2_copy_0 rfl (lv_at hl 0 rfl) ?_
  refine lv_aload_n hx hb dX2_copy_1 rfl (lv_at hl 1 rfl) ?_
  refine x_get S hK hP 11 rfl cfX2 0 lkX2_42 (by decide) rfl dX2_copy_2 ?_
  refine x_put (ws' := [((a 0), .inr (2, [.int w0, .int v1, .int v2, .int v3, .int v4, .int v5, .int v6, .int v7, .int v8, .ref (a 1), .ref (a 2), .ref (a 3), .ref (a 4), .ref (a 5), .ref (a 6), .ref (a 7), .ref (a 8), .ref (a 9), .ref (a 10)])), ((a 1), .inl (k 0, 12, .inl f0)), ((a 2), .inl (k 0, 12, .inl f1)), ((a 3), .inl (k 0, 12, .inl f2)), ((a 4), .inl (k 0, 12, .inl f3)), ((a 5), .inl (k 0, 12, .inl f4)), ((a 6), .inl (k 0, 12, .inl f5)), ((a 7), .inl (k 0, 4, .inl f6)), ((a 8), .inl (k 0, 42, .inl f7)), ((a 9), .inl (k 0, 42, .inl f8)), ((a 10), .inl (k 0, 42, .inl f9)), ((b 0), .inr (2, [.int w0, .int w1, .int w2, .int w3, .int w4, .int w5, .int w6, .int w7, .int w8, .ref (b 1), .ref (b 2), .ref (b 3), .ref (b 4), .ref (b 5), .ref (b 6), .ref (b 7), .ref (b 8), .ref (b 9), .ref (b 10)])), ((b 1), .inl (k 0, 12, .inl g0)), ((b 2), .inl (k 0, 12, .inl g1)), ((b 3), .inl (k 0, 12, .inl g2)), ((b 4), .inl (k 0, 12, .inl g3)), ((b 5), .inl (k 0, 12, .inl g4)), ((b 6), .inl (k 0, 12, .inl g5)), ((b 7), .inl (k 0, 4, .inl g6)), ((b 8), .inl (k 0, 42, .inl g7)), ((b 9), .inl (k 0, 42, .inl g8)), ((b 10), .inl (k 0, 42, .inl g9))]) S hK hP hD hS 0 rfl cfX2 0 lkX2_42 (by decide) rfl rfl rfl (Nat.le_of_ble_eq_true rfl) rfl dX2_copy_5 (fun H locs hP hD hS => ?_)
  refine lv_aload_n hx hb dX2_copy_8 rfl (lv_at hl 0 rfl) ?_
  refine lv_aload_n hx hb dX2_copy_9 rfl (lv_at hl 1 rfl) ?_
  refine x_get S hK hP 11 rfl cfX2 1 lkX2_46 (by decide) rfl dX2_copy_10 ?_
  refine x_put (ws' := [((a 0), .inr (2, [.int w0, .int w1, .int v2, .int v3, .int v4, .int v5, .int v6, .int v7, .int v8, .ref (a 1), .ref (a 2), .ref (a 3), .ref (a 4), .ref (a 5), .ref (a 6), .ref (a 7), .ref (a 8), .ref (a 9), .ref (a 10)])), ((a 1), .inl (k 0, 12, .inl f0)), ((a 2), .inl (k 0, 12, .inl f1)), ((a 3), .inl (k 0, 12, .inl f2)), ((a 4), .inl (k 0, 12, .inl f3)), ((a 5), .inl (k 0, 12, .inl f4)), ((a 6), .inl (k 0, 12, .inl f5)), ((a 7), .inl (k 0, 4, .inl f6)), ((a 8), .inl (k 0, 42, .inl f7)), ((a 9), .inl (k 0, 42, .inl f8)), ((a 10), .inl (k 0, 42, .inl f9)), ((b 0), .inr (2, [.int w0, .int w1, .int w2, .int w3, .int w4, .int w5, .int w6, .int w7, .int w8, .ref (b 1), .ref (b 2), .ref (b 3), .ref (b 4), .ref (b 5), .ref (b 6), .ref (b 7), .ref (b 8), .ref (b 9), .ref (b 10)])), ((b 1), .inl (k 0, 12, .inl g0)), ((b 2), .inl (k 0, 12, .inl g1)), ((b 3), .inl (k 0, 12, .inl g2)), ((b 4), .inl (k 0, 12, .inl g3)), ((b 5), .inl (k 0, 12, .inl g4)), ((b 6), .inl (k 0, 12, .inl g5)), ((b 7), .inl (k 0, 4, .inl g6)), ((b 8), .inl (k 0, 42, .inl g7)), ((b 9), .inl (k 0, 42, .inl g8)), ((b 10), .inl (k 0, 42, .inl g9))]) S hK hP hD hS 0 rfl cfX2 1 lkX2_46 (by decide) rfl rfl rfl (Nat.le_of_ble_eq_true rfl) rfl dX2_copy_13 (fun H locs hP hD hS => ?_)
  refine lv_aload_n hx hb dX2_copy_16 rfl (lv_at hl 0 rfl) ?_
  refine lv_aload_n hx hb dX2_copy_17 rfl (lv_at hl 1 rfl) ?_
  refine x_get S hK hP 11 rfl cfX2 2 lkX2_49 (by decide) rfl dX2_copy_18 ?_
  refine x_put (ws' := [((a 0), .inr (2, [.int w0, .int w1, .int w2, .int v3, .int v4, .int v5, .int v6, .int v7, .int v8, .ref (a 1), .ref (a 2), .ref (a 3), .ref (a 4), .ref (a 5), .ref (a 6), .ref (a 7), .ref (a 8), .ref (a 9), .ref (a 10)])), ((a 1), .inl (k 0, 12, .inl f0)), ((a 2), .inl (k 0, 12, .inl f1)), ((a 3), .inl (k 0, 12, .inl f2)), ((a 4), .inl (k 0, 12, .inl f3)), ((a 5), .inl (k 0, 12, .inl f4)), ((a 6), .inl (k 0, 12, .inl f5)), ((a 7), .inl (k 0, 4, .inl f6)), ((a 8), .inl (k 0, 42, .inl f7)), ((a 9), .inl (k 0, 42, .inl f8)), ((a 10), .inl (k 0, 42, .inl f9)), ((b 0), .inr (2, [.int w0, .int w1, .int w2, .int w3, .int w4, .int w5, .int w6, .int w7, .int w8, .ref (b 1), .ref (b 2), .ref (b 3), .ref (b 4), .ref (b 5), .ref (b 6), .ref (b 7), .ref (b 8), .ref (b 9), .ref (b 10)])), ((b 1), .inl (k 0, 12, .inl g0)), ((b 2), .inl (k 0, 12, .inl g1)), ((b 3), .inl (k 0, 12, .inl g2)), ((b 4), .inl (k 0, 12, .inl g3)), ((b 5), .inl (k 0, 12, .inl g4)), ((b 6), .inl (k 0, 12, .inl g5)), ((b 7), .inl (k 0, 4, .inl g6)), ((b 8), .inl (k 0, 42, .inl g7)), ((b 9), .inl (k 0, 42, .inl g8)), ((b 10), .inl (k 0, 42, .inl g9))]) S hK hP hD hS 0 rfl cfX2 2 lkX2_49 (by decide) rfl rfl rfl (Nat.le_of_ble_eq_true rfl) rfl dX2_copy_21 (fun H locs hP hD hS => ?_)
  refine lv_aload_n hx hb dX2_copy_24 rfl (lv_at hl 0 rfl) ?_
  refine lv_aload_n hx hb dX2_copy_25 rfl (lv_at hl 1 rfl) ?_
  refine x_get S hK hP 11 rfl cfX2 3 lkX2_52 (by decide) rfl dX2_copy_26 ?_
  refine x_put (ws' := [((a 0), .inr (2, [.int w0, .int w1, .int w2, .int w3, .int v4, .int v5, .int v6, .int v7, .int v8, .ref (a 1), .ref (a 2), .ref (a 3), .ref (a 4), .ref (a 5), .ref (a 6), .ref (a 7), .ref (a 8), .ref (a 9), .ref (a 10)])), ((a 1), .inl (k 0, 12, .inl f0)), ((a 2), .inl (k 0, 12, .inl f1)), ((a 3), .inl (k 0, 12, .inl f2)), ((a 4), .inl (k 0, 12, .inl f3)), ((a 5), .inl (k 0, 12, .inl f4)), ((a 6), .inl (k 0, 12, .inl f5)), ((a 7), .inl (k 0, 4, .inl f6)), ((a 8), .inl (k 0, 42, .inl f7)), ((a 9), .inl (k 0, 42, .inl f8)), ((a 10), .inl (k 0, 42, .inl f9)), ((b 0), .inr (2, [.int w0, .int w1, .int w2, .int w3, .int w4, .int w5, .int w6, .int w7, .int w8, .ref (b 1), .ref (b 2), .ref (b 3), .ref (b 4), .ref (b 5), .ref (b 6), .ref (b 7), .ref (b 8), .ref (b 9), .ref (b 10)])), ((b 1), .inl (k 0, 12, .inl g0)), ((b 2), .inl (k 0, 12, .inl g1)), ((b 3), .inl (k 0, 12, .inl g2)), ((b 4), .inl (k 0, 12, .inl g3)), ((b 5), .inl (k 0, 12, .inl g4)), ((b 6), .inl (k 0, 12, .inl g5)), ((b 7), .inl (k 0, 4, .inl g6)), ((b 8), .inl (k 0, 42, .inl g7)), ((b 9), .inl (k 0, 42, .inl g8)), ((b 10), .inl (k 0, 42, .inl g9))]) S hK hP hD hS 0 rfl cfX2 3 lkX2_52 (by decide) rfl rfl rfl (Nat.le_of_ble_eq_true rfl) rfl dX2_copy_29 (fun H locs hP hD hS => ?_)
  refine lv_aload_n hx hb dX2_copy_32 rfl (lv_at hl 0 rfl) ?_
  refine lv_aload_n hx hb dX2_copy_33 rfl (lv_at hl 1 rfl) ?_
  refine x_get S hK hP 11 rfl cfX2 4 lkX2_55 (by decide) rfl dX2_copy_34 ?_
  refine x_put (ws' := [((a 0), .inr (2, [.int w0, .int w1, .int w2, .int w3, .int w4, .int v5, .int v6, .int v7, .int v8, .ref (a 1), .ref (a 2), .ref (a 3), .ref (a 4), .ref (a 5), .ref (a 6), .ref (a 7), .ref (a 8), .ref (a 9), .ref (a 10)])), ((a 1), .inl (k 0, 12, .inl f0)), ((a 2), .inl (k 0, 12, .inl f1)), ((a 3), .inl (k 0, 12, .inl f2)), ((a 4), .inl (k 0, 12, .inl f3)), ((a 5), .inl (k 0, 12, .inl f4)), ((a 6), .inl (k 0, 12, .inl f5)), ((a 7), .inl (k 0, 4, .inl f6)), ((a 8), .inl (k 0, 42, .inl f7)), ((a 9), .inl (k 0, 42, .inl f8)), ((a 10), .inl (k 0, 42, .inl f9)), ((b 0), .inr (2, [.int w0, .int w1, .int w2, .int w3, .int w4, .int w5, .int w6, .int w7, .int w8, .ref (b 1), .ref (b 2), .ref (b 3), .ref (b 4), .ref (b 5), .ref (b 6), .ref (b 7), .ref (b 8), .ref (b 9), .ref (b 10)])), ((b 1), .inl (k 0, 12, .inl g0)), ((b 2), .inl (k 0, 12, .inl g1)), ((b 3), .inl (k 0, 12, .inl g2)), ((b 4), .inl (k 0, 12, .inl g3)), ((b 5), .inl (k 0, 12, .inl g4)), ((b 6), .inl (k 0, 12, .inl g5)), ((b 7), .inl (k 0, 4, .inl g6)), ((b 8), .inl (k 0, 42, .inl g7)), ((b 9), .inl (k 0, 42, .inl g8)), ((b 10), .inl (k 0, 42, .inl g9))]) S hK hP hD hS 0 rfl cfX2 4 lkX2_55 (by decide) rfl rfl rfl (Nat.le_of_ble_eq_true rfl) rfl dX2_copy_37 (fun H locs hP hD hS => ?_)
  refine lv_aload_n hx hb dX2_copy_40 rfl (lv_at hl 0 rfl) ?_
  refine lv_aload_n hx hb dX2_copy_41 rfl (lv_at hl 1 rfl) ?_
  refine x_get S hK hP 11 rfl cfX2 5 lkX2_58 (by decide) rfl dX2_copy_42 ?_
  refine x_put (ws' := [((a 0), .inr (2, [.int w0, .int w1, .int w2, .int w3, .int w4, .int w5, .int v6, .int v7, .int v8, .ref (a 1), .ref (a 2), .ref (a 3), .ref (a 4), .ref (a 5), .ref (a 6), .ref (a 7), .ref (a 8), .ref (a 9), .ref (a 10)])), ((a 1), .inl (k 0, 12, .inl f0)), ((a 2), .inl (k 0, 12, .inl f1)), ((a 3), .inl (k 0, 12, .inl f2)), ((a 4), .inl (k 0, 12, .inl f3)), ((a 5), .inl (k 0, 12, .inl f4)), ((a 6), .inl (k 0, 12, .inl f5)), ((a 7), .inl (k 0, 4, .inl f6)), ((a 8), .inl (k 0, 42, .inl f7)), ((a 9), .inl (k 0, 42, .inl f8)), ((a 10), .inl (k 0, 42, .inl f9)), ((b 0), .inr (2, [.int w0, .int w1, .int w2, .int w3, .int w4, .int w5, .int w6, .int w7, .int w8, .ref (b 1), .ref (b 2), .ref (b 3), .ref (b 4), .ref (b 5), .ref (b 6), .ref (b 7), .ref (b 8), .ref (b 9), .ref (b 10)])), ((b 1), .inl (k 0, 12, .inl g0)), ((b 2), .inl (k 0, 12, .inl g1)), ((b 3), .inl (k 0, 12, .inl g2)), ((b 4), .inl (k 0, 12, .inl g3)), ((b 5), .inl (k 0, 12, .inl g4)), ((b 6), .inl (k 0, 12, .inl g5)), ((b 7), .inl (k 0, 4, .inl g6)), ((b 8), .inl (k 0, 42, .inl g7)), ((b 9), .inl (k 0, 42, .inl g8)), ((b 10), .inl (k 0, 42, .inl g9))]) S hK hP hD hS 0 rfl cfX2 5 lkX2_58 (by decide) rfl rfl rfl (Nat.le_of_ble_eq_true rfl) rfl dX2_copy_45 (fun H locs hP hD hS => ?_)
  refine lv_aload_n hx hb dX2_copy_48 rfl (lv_at hl 0 rfl) ?_
  refine lv_aload_n hx hb dX2_copy_49 rfl (lv_at hl 1 rfl) ?_
  refine x_get S hK hP 11 rfl cfX2 6 lkX2_61 (by decide) rfl dX2_copy_50 ?_
  refine x_put (ws' := [((a 0), .inr (2, [.int w0, .int w1, .int w2, .int w3, .int w4, .int w5, .int w6, .int v7, .int v8, .ref (a 1), .ref (a 2), .ref (a 3), .ref (a 4), .ref (a 5), .ref (a 6), .ref (a 7), .ref (a 8), .ref (a 9), .ref (a 10)])), ((a 1), .inl (k 0, 12, .inl f0)), ((a 2), .inl (k 0, 12, .inl f1)), ((a 3), .inl (k 0, 12, .inl f2)), ((a 4), .inl (k 0, 12, .inl f3)), ((a 5), .inl (k 0, 12, .inl f4)), ((a 6), .inl (k 0, 12, .inl f5)), ((a 7), .inl (k 0, 4, .inl f6)), ((a 8), .inl (k 0, 42, .inl f7)), ((a 9), .inl (k 0, 42, .inl f8)), ((a 10), .inl (k 0, 42, .inl f9)), ((b 0), .inr (2, [.int w0, .int w1, .int w2, .int w3, .int w4, .int w5, .int w6, .int w7, .int w8, .ref (b 1), .ref (b 2), .ref (b 3), .ref (b 4), .ref (b 5), .ref (b 6), .ref (b 7), .ref (b 8), .ref (b 9), .ref (b 10)])), ((b 1), .inl (k 0, 12, .inl g0)), ((b 2), .inl (k 0, 12, .inl g1)), ((b 3), .inl (k 0, 12, .inl g2)), ((b 4), .inl (k 0, 12, .inl g3)), ((b 5), .inl (k 0, 12, .inl g4)), ((b 6), .inl (k 0, 12, .inl g5)), ((b 7), .inl (k 0, 4, .inl g6)), ((b 8), .inl (k 0, 42, .inl g7)), ((b 9), .inl (k 0, 42, .inl g8)), ((b 10), .inl (k 0, 42, .inl g9))]) S hK hP hD hS 0 rfl cfX2 6 lkX2_61 (by decide) rfl rfl rfl (Nat.le_of_ble_eq_true rfl) rfl dX2_copy_53 (fun H locs hP hD hS => ?_)
  refine lv_aload_n hx hb dX2_copy_56 rfl (lv_at hl 0 rfl) ?_
  refine lv_aload_n hx hb dX2_copy_57 rfl (lv_at hl 1 rfl) ?_
  refine x_get S hK hP 11 rfl cfX2 7 lkX2_64 (by decide) rfl dX2_copy_58 ?_
  refine x_put (ws' := [((a 0), .inr (2, [.int w0, .int w1, .int w2, .int w3, .int w4, .int w5, .int w6, .int w7, .int v8, .ref (a 1), .ref (a 2), .ref (a 3), .ref (a 4), .ref (a 5), .ref (a 6), .ref (a 7), .ref (a 8), .ref (a 9), .ref (a 10)])), ((a 1), .inl (k 0, 12, .inl f0)), ((a 2), .inl (k 0, 12, .inl f1)), ((a 3), .inl (k 0, 12, .inl f2)), ((a 4), .inl (k 0, 12, .inl f3)), ((a 5), .inl (k 0, 12, .inl f4)), ((a 6), .inl (k 0, 12, .inl f5)), ((a 7), .inl (k 0, 4, .inl f6)), ((a 8), .inl (k 0, 42, .inl f7)), ((a 9), .inl (k 0, 42, .inl f8)), ((a 10), .inl (k 0, 42, .inl f9)), ((b 0), .inr (2, [.int w0, .int w1, .int w2, .int w3, .int w4, .int w5, .int w6, .int w7, .int w8, .ref (b 1), .ref (b 2), .ref (b 3), .ref (b 4), .ref (b 5), .ref (b 6), .ref (b 7), .ref (b 8), .ref (b 9), .ref (b 10)])), ((b 1), .inl (k 0, 12, .inl g0)), ((b 2), .inl (k 0, 12, .inl g1)), ((b 3), .inl (k 0, 12, .inl g2)), ((b 4), .inl (k 0, 12, .inl g3)), ((b 5), .inl (k 0, 12, .inl g4)), ((b 6), .inl (k 0, 12, .inl g5)), ((b 7), .inl (k 0, 4, .inl g6)), ((b 8), .inl (k 0, 42, .inl g7)), ((b 9), .inl (k 0, 42, .inl g8)), ((b 10), .inl (k 0, 42, .inl g9))]) S hK hP hD hS 0 rfl cfX2 7 lkX2_64 (by decide) rfl rfl rfl (Nat.le_of_ble_eq_true rfl) rfl dX2_copy_61 (fun H locs hP hD hS => ?_)
  refine lv_aload_n hx hb dX2_copy_64 rfl (lv_at hl 0 rfl) ?_
  refine lv_aload_n hx hb dX2_copy_65 rfl (lv_at hl 1 rfl) ?_
  refine x_get S hK hP 11 rfl cfX2 8 lkX2_67 (by decide) rfl dX2_copy_66 ?_
  refine x_put (ws' := [((a 0), .inr (2, [.int w0, .int w1, .int w2, .int w3, .int w4, .int w5, .int w6, .int w7, .int w8, .ref (a 1), .ref (a 2), .ref (a 3), .ref (a 4), .ref (a 5), .ref (a 6), .ref (a 7), .ref (a 8), .ref (a 9), .ref (a 10)])), ((a 1), .inl (k 0, 12, .inl f0)), ((a 2), .inl (k 0, 12, .inl f1)), ((a 3), .inl (k 0, 12, .inl f2)), ((a 4), .inl (k 0, 12, .inl f3)), ((a 5), .inl (k 0, 12, .inl f4)), ((a 6), .inl (k 0, 12, .inl f5)), ((a 7), .inl (k 0, 4, .inl f6)), ((a 8), .inl (k 0, 42, .inl f7)), ((a 9), .inl (k 0, 42, .inl f8)), ((a 10), .inl (k 0, 42, .inl f9)), ((b 0), .inr (2, [.int w0, .int w1, .int w2, .int w3, .int w4, .int w5, .int w6, .int w7, .int w8, .ref (b 1), .ref (b 2), .ref (b 3), .ref (b 4), .ref (b 5), .ref (b 6), .ref (b 7), .ref (b 8), .ref (b 9), .ref (b 10)])), ((b 1), .inl (k 0, 12, .inl g0)), ((b 2), .inl (k 0, 12, .inl g1)), ((b 3), .inl (k 0, 12, .inl g2)), ((b 4), .inl (k 0, 12, .inl g3)), ((b 5), .inl (k 0, 12, .inl g4)), ((b 6), .inl (k 0, 12, .inl g5)), ((b 7), .inl (k 0, 4, .inl g6)), ((b 8), .inl (k 0, 42, .inl g7)), ((b 9), .inl (k 0, 42, .inl g8)), ((b 10), .inl (k 0, 42, .inl g9))]) S hK hP hD hS 0 rfl cfX2 8 lkX2_67 (by decide) rfl rfl rfl (Nat.le_of_ble_eq_true rfl) rfl dX2_copy_69 (fun H locs hP hD hS => ?_)
  refine lv_aload_n hx hb dX2_copy_72 rfl (lv_at hl 1 rfl) ?_
  refine x_get S hK hP 11 rfl cfX2 9 lkX2_9 (by decide) rfl dX2_copy_73 ?_
  refine lv_iconst (v := 0) hx hb dX2_copy_76 (by decide) ?_
  refine lv_aload_n hx hb dX2_copy_77 rfl (lv_at hl 0 rfl) ?_
  refine x_get S hK hP 0 rfl cfX2 9 lkX2_9 (by decide) rfl dX2_copy_78 ?_
  refine lv_iconst (v := 0) hx hb dX2_copy_81 (by decide) ?_
  refine lv_bipush (v := 12) hx hb dX2_copy_82 (by decide) ?_
  refine x_copyi (ws' := fun f_1 => [((a 0), .inr (2, [.int w0, .int w1, .int w2, .int w3, .int w4, .int w5, .int w6, .int w7, .int w8, .ref (a 1), .ref (a 2), .ref (a 3), .ref (a 4), .ref (a 5), .ref (a 6), .ref (a 7), .ref (a 8), .ref (a 9), .ref (a 10)])), ((a 1), .inl (k 0, 12, .inl f_1)), ((a 2), .inl (k 0, 12, .inl f1)), ((a 3), .inl (k 0, 12, .inl f2)), ((a 4), .inl (k 0, 12, .inl f3)), ((a 5), .inl (k 0, 12, .inl f4)), ((a 6), .inl (k 0, 12, .inl f5)), ((a 7), .inl (k 0, 4, .inl f6)), ((a 8), .inl (k 0, 42, .inl f7)), ((a 9), .inl (k 0, 42, .inl f8)), ((a 10), .inl (k 0, 42, .inl f9)), ((b 0), .inr (2, [.int w0, .int w1, .int w2, .int w3, .int w4, .int w5, .int w6, .int w7, .int w8, .ref (b 1), .ref (b 2), .ref (b 3), .ref (b 4), .ref (b 5), .ref (b 6), .ref (b 7), .ref (b 8), .ref (b 9), .ref (b 10)])), ((b 1), .inl (k 0, 12, .inl g0)), ((b 2), .inl (k 0, 12, .inl g1)), ((b 3), .inl (k 0, 12, .inl g2)), ((b 4), .inl (k 0, 12, .inl g3)), ((b 5), .inl (k 0, 12, .inl g4)), ((b 6), .inl (k 0, 12, .inl g5)), ((b 7), .inl (k 0, 4, .inl g6)), ((b 8), .inl (k 0, 42, .inl g7)), ((b 9), .inl (k 0, 42, .inl g8)), ((b 10), .inl (k 0, 42, .inl g9))]) S hK hP hD hS hl lkX2_70 12 1 rfl rfl (by decide) (by decide) (by decide) (by decide) (by decide) ⟨Nat.le_of_ble_eq_true rfl, Nat.le_of_ble_eq_true rfl⟩ (fun _ => rfl) dX2_copy_84 (fun f_1 H locs ef_1 hP hD hS => ?_)
  refine lv_aload_n hx hb dX2_copy_87 rfl (lv_at hl 1 rfl) ?_
  refine x_get S hK hP 11 rfl cfX2 10 lkX2_15 (by decide) rfl dX2_copy_88 ?_
  refine lv_iconst (v := 0) hx hb dX2_copy_91 (by decide) ?_
  refine lv_aload_n hx hb dX2_copy_92 rfl (lv_at hl 0 rfl) ?_
  refine x_get S hK hP 0 rfl cfX2 10 lkX2_15 (by decide) rfl dX2_copy_93 ?_
  refine lv_iconst (v := 0) hx hb dX2_copy_96 (by decide) ?_
  refine lv_bipush (v := 12) hx hb dX2_copy_97 (by decide) ?_
  refine x_copyi (ws' := fun f_2 => [((a 0), .inr (2, [.int w0, .int w1, .int w2, .int w3, .int w4, .int w5, .int w6, .int w7, .int w8, .ref (a 1), .ref (a 2), .ref (a 3), .ref (a 4), .ref (a 5), .ref (a 6), .ref (a 7), .ref (a 8), .ref (a 9), .ref (a 10)])), ((a 1), .inl (k 0, 12, .inl f_1)), ((a 2), .inl (k 0, 12, .inl f_2)), ((a 3), .inl (k 0, 12, .inl f2)), ((a 4), .inl (k 0, 12, .inl f3)), ((a 5), .inl (k 0, 12, .inl f4)), ((a 6), .inl (k 0, 12, .inl f5)), ((a 7), .inl (k 0, 4, .inl f6)), ((a 8), .inl (k 0, 42, .inl f7)), ((a 9), .inl (k 0, 42, .inl f8)), ((a 10), .inl (k 0, 42, .inl f9)), ((b 0), .inr (2, [.int w0, .int w1, .int w2, .int w3, .int w4, .int w5, .int w6, .int w7, .int w8, .ref (b 1), .ref (b 2), .ref (b 3), .ref (b 4), .ref (b 5), .ref (b 6), .ref (b 7), .ref (b 8), .ref (b 9), .ref (b 10)])), ((b 1), .inl (k 0, 12, .inl g0)), ((b 2), .inl (k 0, 12, .inl g1)), ((b 3), .inl (k 0, 12, .inl g2)), ((b 4), .inl (k 0, 12, .inl g3)), ((b 5), .inl (k 0, 12, .inl g4)), ((b 6), .inl (k 0, 12, .inl g5)), ((b 7), .inl (k 0, 4, .inl g6)), ((b 8), .inl (k 0, 42, .inl g7)), ((b 9), .inl (k 0, 42, .inl g8)), ((b 10), .inl (k 0, 42, .inl g9))]) S hK hP hD hS hl lkX2_70 13 2 rfl rfl (by decide) (by decide) (by decide) (by decide) (by decide) ⟨Nat.le_of_ble_eq_true rfl, Nat.le_of_ble_eq_true rfl⟩ (fun _ => rfl) dX2_copy_99 (fun f_2 H locs ef_2 hP hD hS => ?_)
  refine lv_aload_n hx hb dX2_copy_102 rfl (lv_at hl 1 rfl) ?_
  refine x_get S hK hP 11 rfl cfX2 11 lkX2_18 (by decide) rfl dX2_copy_103 ?_
  refine lv_iconst (v := 0) hx hb dX2_copy_106 (by decide) ?_
  refine lv_aload_n hx hb dX2_copy_107 rfl (lv_at hl 0 rfl) ?_
  refine x_get S hK hP 0 rfl cfX2 11 lkX2_18 (by decide) rfl dX2_copy_108 ?_
  refine lv_iconst (v := 0) hx hb dX2_copy_111 (by decide) ?_
  refine lv_bipush (v := 12) hx hb dX2_copy_112 (by decide) ?_
  refine x_copyi (ws' := fun f_3 => [((a 0), .inr (2, [.int w0, .int w1, .int w2, .int w3, .int w4, .int w5, .int w6, .int w7, .int w8, .ref (a 1), .ref (a 2), .ref (a 3), .ref (a 4), .ref (a 5), .ref (a 6), .ref (a 7), .ref (a 8), .ref (a 9), .ref (a 10)])), ((a 1), .inl (k 0, 12, .inl f_1)), ((a 2), .inl (k 0, 12, .inl f_2)), ((a 3), .inl (k 0, 12, .inl f_3)), ((a 4), .inl (k 0, 12, .inl f3)), ((a 5), .inl (k 0, 12, .inl f4)), ((a 6), .inl (k 0, 12, .inl f5)), ((a 7), .inl (k 0, 4, .inl f6)), ((a 8), .inl (k 0, 42, .inl f7)), ((a 9), .inl (k 0, 42, .inl f8)), ((a 10), .inl (k 0, 42, .inl f9)), ((b 0), .inr (2, [.int w0, .int w1, .int w2, .int w3, .int w4, .int w5, .int w6, .int w7, .int w8, .ref (b 1), .ref (b 2), .ref (b 3), .ref (b 4), .ref (b 5), .ref (b 6), .ref (b 7), .ref (b 8), .ref (b 9), .ref (b 10)])), ((b 1), .inl (k 0, 12, .inl g0)), ((b 2), .inl (k 0, 12, .inl g1)), ((b 3), .inl (k 0, 12, .inl g2)), ((b 4), .inl (k 0, 12, .inl g3)), ((b 5), .inl (k 0, 12, .inl g4)), ((b 6), .inl (k 0, 12, .inl g5)), ((b 7), .inl (k 0, 4, .inl g6)), ((b 8), .inl (k 0, 42, .inl g7)), ((b 9), .inl (k 0, 42, .inl g8)), ((b 10), .inl (k 0, 42, .inl g9))]) S hK hP hD hS hl lkX2_70 14 3 rfl rfl (by decide) (by decide) (by decide) (by decide) (by decide) ⟨Nat.le_of_ble_eq_true rfl, Nat.le_of_ble_eq_true rfl⟩ (fun _ => rfl) dX2_copy_114 (fun f_3 H locs ef_3 hP hD hS => ?_)
  refine lv_aload_n hx hb dX2_copy_117 rfl (lv_at hl 1 rfl) ?_
  refine x_get S hK hP 11 rfl cfX2 12 lkX2_21 (by decide) rfl dX2_copy_118 ?_
  refine lv_iconst (v := 0) hx hb dX2_copy_121 (by decide) ?_
  refine lv_aload_n hx hb dX2_copy_122 rfl (lv_at hl 0 rfl) ?_
  refine x_get S hK hP 0 rfl cfX2 12 lkX2_21 (by decide) rfl dX2_copy_123 ?_
  refine lv_iconst (v := 0) hx hb dX2_copy_126 (by decide) ?_
  refine lv_bipush (v := 12) hx hb dX2_copy_127 (by decide) ?_
  refine x_copyi (ws' := fun f_4 => [((a 0), .inr (2, [.int w0, .int w1, .int w2, .int w3, .int w4, .int w5, .int w6, .int w7, .int w8, .ref (a 1), .ref (a 2), .ref (a 3), .ref (a 4), .ref (a 5), .ref (a 6), .ref (a 7), .ref (a 8), .ref (a 9), .ref (a 10)])), ((a 1), .inl (k 0, 12, .inl f_1)), ((a 2), .inl (k 0, 12, .inl f_2)), ((a 3), .inl (k 0, 12, .inl f_3)), ((a 4), .inl (k 0, 12, .inl f_4)), ((a 5), .inl (k 0, 12, .inl f4)), ((a 6), .inl (k 0, 12, .inl f5)), ((a 7), .inl (k 0, 4, .inl f6)), ((a 8), .inl (k 0, 42, .inl f7)), ((a 9), .inl (k 0, 42, .inl f8)), ((a 10), .inl (k 0, 42, .inl f9)), ((b 0), .inr (2, [.int w0, .int w1, .int w2, .int w3, .int w4, .int w5, .int w6, .int w7, .int w8, .ref (b 1), .ref (b 2), .ref (b 3), .ref (b 4), .ref (b 5), .ref (b 6), .ref (b 7), .ref (b 8), .ref (b 9), .ref (b 10)])), ((b 1), .inl (k 0, 12, .inl g0)), ((b 2), .inl (k 0, 12, .inl g1)), ((b 3), .inl (k 0, 12, .inl g2)), ((b 4), .inl (k 0, 12, .inl g3)), ((b 5), .inl (k 0, 12, .inl g4)), ((b 6), .inl (k 0, 12, .inl g5)), ((b 7), .inl (k 0, 4, .inl g6)), ((b 8), .inl (k 0, 42, .inl g7)), ((b 9), .inl (k 0, 42, .inl g8)), ((b 10), .inl (k 0, 42, .inl g9))]) S hK hP hD hS hl lkX2_70 15 4 rfl rfl (by decide) (by decide) (by decide) (by decide) (by decide) ⟨Nat.le_of_ble_eq_true rfl, Nat.le_of_ble_eq_true rfl⟩ (fun _ => rfl) dX2_copy_129 (fun f_4 H locs ef_4 hP hD hS => ?_)
  refine lv_aload_n hx hb dX2_copy_132 rfl (lv_at hl 1 rfl) ?_
  refine x_get S hK hP 11 rfl cfX2 13 lkX2_24 (by decide) rfl dX2_copy_133 ?_
  refine lv_iconst (v := 0) hx hb dX2_copy_136 (by decide) ?_
  refine lv_aload_n hx hb dX2_copy_137 rfl (lv_at hl 0 rfl) ?_
  refine x_get S hK hP 0 rfl cfX2 13 lkX2_24 (by decide) rfl dX2_copy_138 ?_
  refine lv_iconst (v := 0) hx hb dX2_copy_141 (by decide) ?_
  refine lv_bipush (v := 12) hx hb dX2_copy_142 (by decide) ?_
  refine x_copyi (ws' := fun f_5 => [((a 0), .inr (2, [.int w0, .int w1, .int w2, .int w3, .int w4, .int w5, .int w6, .int w7, .int w8, .ref (a 1), .ref (a 2), .ref (a 3), .ref (a 4), .ref (a 5), .ref (a 6), .ref (a 7), .ref (a 8), .ref (a 9), .ref (a 10)])), ((a 1), .inl (k 0, 12, .inl f_1)), ((a 2), .inl (k 0, 12, .inl f_2)), ((a 3), .inl (k 0, 12, .inl f_3)), ((a 4), .inl (k 0, 12, .inl f_4)), ((a 5), .inl (k 0, 12, .inl f_5)), ((a 6), .inl (k 0, 12, .inl f5)), ((a 7), .inl (k 0, 4, .inl f6)), ((a 8), .inl (k 0, 42, .inl f7)), ((a 9), .inl (k 0, 42, .inl f8)), ((a 10), .inl (k 0, 42, .inl f9)), ((b 0), .inr (2, [.int w0, .int w1, .int w2, .int w3, .int w4, .int w5, .int w6, .int w7, .int w8, .ref (b 1), .ref (b 2), .ref (b 3), .ref (b 4), .ref (b 5), .ref (b 6), .ref (b 7), .ref (b 8), .ref (b 9), .ref (b 10)])), ((b 1), .inl (k 0, 12, .inl g0)), ((b 2), .inl (k 0, 12, .inl g1)), ((b 3), .inl (k 0, 12, .inl g2)), ((b 4), .inl (k 0, 12, .inl g3)), ((b 5), .inl (k 0, 12, .inl g4)), ((b 6), .inl (k 0, 12, .inl g5)), ((b 7), .inl (k 0, 4, .inl g6)), ((b 8), .inl (k 0, 42, .inl g7)), ((b 9), .inl (k 0, 42, .inl g8)), ((b 10), .inl (k 0, 42, .inl g9))]) S hK hP hD hS hl lkX2_70 16 5 rfl rfl (by decide) (by decide) (by decide) (by decide) (by decide) ⟨Nat.le_of_ble_eq_true rfl, Nat.le_of_ble_eq_true rfl⟩ (fun _ => rfl) dX2_copy_144 (fun f_5 H locs ef_5 hP hD hS => ?_)
  refine lv_aload_n hx hb dX2_copy_147 rfl (lv_at hl 1 rfl) ?_
  refine x_get S hK hP 11 rfl cfX2 14 lkX2_27 (by decide) rfl dX2_copy_148 ?_
  refine lv_iconst (v := 0) hx hb dX2_copy_151 (by decide) ?_
  refine lv_aload_n hx hb dX2_copy_152 rfl (lv_at hl 0 rfl) ?_
  refine x_get S hK hP 0 rfl cfX2 14 lkX2_27 (by decide) rfl dX2_copy_153 ?_
  refine lv_iconst (v := 0) hx hb dX2_copy_156 (by decide) ?_
  refine lv_bipush (v := 12) hx hb dX2_copy_157 (by decide) ?_
  refine x_copyi (ws' := fun f_6 => [((a 0), .inr (2, [.int w0, .int w1, .int w2, .int w3, .int w4, .int w5, .int w6, .int w7, .int w8, .ref (a 1), .ref (a 2), .ref (a 3), .ref (a 4), .ref (a 5), .ref (a 6), .ref (a 7), .ref (a 8), .ref (a 9), .ref (a 10)])), ((a 1), .inl (k 0, 12, .inl f_1)), ((a 2), .inl (k 0, 12, .inl f_2)), ((a 3), .inl (k 0, 12, .inl f_3)), ((a 4), .inl (k 0, 12, .inl f_4)), ((a 5), .inl (k 0, 12, .inl f_5)), ((a 6), .inl (k 0, 12, .inl f_6)), ((a 7), .inl (k 0, 4, .inl f6)), ((a 8), .inl (k 0, 42, .inl f7)), ((a 9), .inl (k 0, 42, .inl f8)), ((a 10), .inl (k 0, 42, .inl f9)), ((b 0), .inr (2, [.int w0, .int w1, .int w2, .int w3, .int w4, .int w5, .int w6, .int w7, .int w8, .ref (b 1), .ref (b 2), .ref (b 3), .ref (b 4), .ref (b 5), .ref (b 6), .ref (b 7), .ref (b 8), .ref (b 9), .ref (b 10)])), ((b 1), .inl (k 0, 12, .inl g0)), ((b 2), .inl (k 0, 12, .inl g1)), ((b 3), .inl (k 0, 12, .inl g2)), ((b 4), .inl (k 0, 12, .inl g3)), ((b 5), .inl (k 0, 12, .inl g4)), ((b 6), .inl (k 0, 12, .inl g5)), ((b 7), .inl (k 0, 4, .inl g6)), ((b 8), .inl (k 0, 42, .inl g7)), ((b 9), .inl (k 0, 42, .inl g8)), ((b 10), .inl (k 0, 42, .inl g9))]) S hK hP hD hS hl lkX2_70 17 6 rfl rfl (by decide) (by decide) (by decide) (by decide) (by decide) ⟨Nat.le_of_ble_eq_true rfl, Nat.le_of_ble_eq_true rfl⟩ (fun _ => rfl) dX2_copy_159 (fun f_6 H locs ef_6 hP hD hS => ?_)
  refine lv_aload_n hx hb dX2_copy_162 rfl (lv_at hl 1 rfl) ?_
  refine x_get S hK hP 11 rfl cfX2 15 lkX2_30 (by decide) rfl dX2_copy_163 ?_
  refine lv_iconst (v := 0) hx hb dX2_copy_166 (by decide) ?_
  refine lv_aload_n hx hb dX2_copy_167 rfl (lv_at hl 0 rfl) ?_
  refine x_get S hK hP 0 rfl cfX2 15 lkX2_30 (by decide) rfl dX2_copy_168 ?_
  refine lv_iconst (v := 0) hx hb dX2_copy_171 (by decide) ?_
  refine lv_iconst (v := 4) hx hb dX2_copy_172 (by decide) ?_
  refine x_copyi (ws' := fun f_7 => [((a 0), .inr (2, [.int w0, .int w1, .int w2, .int w3, .int w4, .int w5, .int w6, .int w7, .int w8, .ref (a 1), .ref (a 2), .ref (a 3), .ref (a 4), .ref (a 5), .ref (a 6), .ref (a 7), .ref (a 8), .ref (a 9), .ref (a 10)])), ((a 1), .inl (k 0, 12, .inl f_1)), ((a 2), .inl (k 0, 12, .inl f_2)), ((a 3), .inl (k 0, 12, .inl f_3)), ((a 4), .inl (k 0, 12, .inl f_4)), ((a 5), .inl (k 0, 12, .inl f_5)), ((a 6), .inl (k 0, 12, .inl f_6)), ((a 7), .inl (k 0, 4, .inl f_7)), ((a 8), .inl (k 0, 42, .inl f7)), ((a 9), .inl (k 0, 42, .inl f8)), ((a 10), .inl (k 0, 42, .inl f9)), ((b 0), .inr (2, [.int w0, .int w1, .int w2, .int w3, .int w4, .int w5, .int w6, .int w7, .int w8, .ref (b 1), .ref (b 2), .ref (b 3), .ref (b 4), .ref (b 5), .ref (b 6), .ref (b 7), .ref (b 8), .ref (b 9), .ref (b 10)])), ((b 1), .inl (k 0, 12, .inl g0)), ((b 2), .inl (k 0, 12, .inl g1)), ((b 3), .inl (k 0, 12, .inl g2)), ((b 4), .inl (k 0, 12, .inl g3)), ((b 5), .inl (k 0, 12, .inl g4)), ((b 6), .inl (k 0, 12, .inl g5)), ((b 7), .inl (k 0, 4, .inl g6)), ((b 8), .inl (k 0, 42, .inl g7)), ((b 9), .inl (k 0, 42, .inl g8)), ((b 10), .inl (k 0, 42, .inl g9))]) S hK hP hD hS hl lkX2_70 18 7 rfl rfl (by decide) (by decide) (by decide) (by decide) (by decide) ⟨Nat.le_of_ble_eq_true rfl, Nat.le_of_ble_eq_true rfl⟩ (fun _ => rfl) dX2_copy_173 (fun f_7 H locs ef_7 hP hD hS => ?_)
  refine lv_aload_n hx hb dX2_copy_176 rfl (lv_at hl 1 rfl) ?_
  refine x_get S hK hP 11 rfl cfX2 16 lkX2_33 (by decide) rfl dX2_copy_177 ?_
  refine lv_iconst (v := 0) hx hb dX2_copy_180 (by decide) ?_
  refine lv_aload_n hx hb dX2_copy_181 rfl (lv_at hl 0 rfl) ?_
  refine x_get S hK hP 0 rfl cfX2 16 lkX2_33 (by decide) rfl dX2_copy_182 ?_
  refine lv_iconst (v := 0) hx hb dX2_copy_185 (by decide) ?_
  refine lv_bipush (v := 42) hx hb dX2_copy_186 (by decide) ?_
  refine x_copyi (ws' := fun f_8 => [((a 0), .inr (2, [.int w0, .int w1, .int w2, .int w3, .int w4, .int w5, .int w6, .int w7, .int w8, .ref (a 1), .ref (a 2), .ref (a 3), .ref (a 4), .ref (a 5), .ref (a 6), .ref (a 7), .ref (a 8), .ref (a 9), .ref (a 10)])), ((a 1), .inl (k 0, 12, .inl f_1)), ((a 2), .inl (k 0, 12, .inl f_2)), ((a 3), .inl (k 0, 12, .inl f_3)), ((a 4), .inl (k 0, 12, .inl f_4)), ((a 5), .inl (k 0, 12, .inl f_5)), ((a 6), .inl (k 0, 12, .inl f_6)), ((a 7), .inl (k 0, 4, .inl f_7)), ((a 8), .inl (k 0, 42, .inl f_8)), ((a 9), .inl (k 0, 42, .inl f8)), ((a 10), .inl (k 0, 42, .inl f9)), ((b 0), .inr (2, [.int w0, .int w1, .int w2, .int w3, .int w4, .int w5, .int w6, .int w7, .int w8, .ref (b 1), .ref (b 2), .ref (b 3), .ref (b 4), .ref (b 5), .ref (b 6), .ref (b 7), .ref (b 8), .ref (b 9), .ref (b 10)])), ((b 1), .inl (k 0, 12, .inl g0)), ((b 2), .inl (k 0, 12, .inl g1)), ((b 3), .inl (k 0, 12, .inl g2)), ((b 4), .inl (k 0, 12, .inl g3)), ((b 5), .inl (k 0, 12, .inl g4)), ((b 6), .inl (k 0, 12, .inl g5)), ((b 7), .inl (k 0, 4, .inl g6)), ((b 8), .inl (k 0, 42, .inl g7)), ((b 9), .inl (k 0, 42, .inl g8)), ((b 10), .inl (k 0, 42, .inl g9))]) S hK hP hD hS hl lkX2_70 19 8 rfl rfl (by decide) (by decide) (by decide) (by decide) (by decide) ⟨Nat.le_of_ble_eq_true rfl, Nat.le_of_ble_eq_true rfl⟩ (fun _ => rfl) dX2_copy_188 (fun f_8 H locs ef_8 hP hD hS => ?_)
  refine lv_aload_n hx hb dX2_copy_191 rfl (lv_at hl 1 rfl) ?_
  refine x_get S hK hP 11 rfl cfX2 17 lkX2_36 (by decide) rfl dX2_copy_192 ?_
  refine lv_iconst (v := 0) hx hb dX2_copy_195 (by decide) ?_
  refine lv_aload_n hx hb dX2_copy_196 rfl (lv_at hl 0 rfl) ?_
  refine x_get S hK hP 0 rfl cfX2 17 lkX2_36 (by decide) rfl dX2_copy_197 ?_
  refine lv_iconst (v := 0) hx hb dX2_copy_200 (by decide) ?_
  refine lv_bipush (v := 42) hx hb dX2_copy_201 (by decide) ?_
  refine x_copyi (ws' := fun f_9 => [((a 0), .inr (2, [.int w0, .int w1, .int w2, .int w3, .int w4, .int w5, .int w6, .int w7, .int w8, .ref (a 1), .ref (a 2), .ref (a 3), .ref (a 4), .ref (a 5), .ref (a 6), .ref (a 7), .ref (a 8), .ref (a 9), .ref (a 10)])), ((a 1), .inl (k 0, 12, .inl f_1)), ((a 2), .inl (k 0, 12, .inl f_2)), ((a 3), .inl (k 0, 12, .inl f_3)), ((a 4), .inl (k 0, 12, .inl f_4)), ((a 5), .inl (k 0, 12, .inl f_5)), ((a 6), .inl (k 0, 12, .inl f_6)), ((a 7), .inl (k 0, 4, .inl f_7)), ((a 8), .inl (k 0, 42, .inl f_8)), ((a 9), .inl (k 0, 42, .inl f_9)), ((a 10), .inl (k 0, 42, .inl f9)), ((b 0), .inr (2, [.int w0, .int w1, .int w2, .int w3, .int w4, .int w5, .int w6, .int w7, .int w8, .ref (b 1), .ref (b 2), .ref (b 3), .ref (b 4), .ref (b 5), .ref (b 6), .ref (b 7), .ref (b 8), .ref (b 9), .ref (b 10)])), ((b 1), .inl (k 0, 12, .inl g0)), ((b 2), .inl (k 0, 12, .inl g1)), ((b 3), .inl (k 0, 12, .inl g2)), ((b 4), .inl (k 0, 12, .inl g3)), ((b 5), .inl (k 0, 12, .inl g4)), ((b 6), .inl (k 0, 12, .inl g5)), ((b 7), .inl (k 0, 4, .inl g6)), ((b 8), .inl (k 0, 42, .inl g7)), ((b 9), .inl (k 0, 42, .inl g8)), ((b 10), .inl (k 0, 42, .inl g9))]) S hK hP hD hS hl lkX2_70 20 9 rfl rfl (by decide) (by decide) (by decide) (by decide) (by decide) ⟨Nat.le_of_ble_eq_true rfl, Nat.le_of_ble_eq_true rfl⟩ (fun _ => rfl) dX2_copy_203 (fun f_9 H locs ef_9 hP hD hS => ?_)
  refine lv_aload_n hx hb dX2_copy_206 rfl (lv_at hl 1 rfl) ?_
  refine x_get S hK hP 11 rfl cfX2 18 lkX2_39 (by decide) rfl dX2_copy_207 ?_
  refine lv_iconst (v := 0) hx hb dX2_copy_210 (by decide) ?_
  refine lv_aload_n hx hb dX2_copy_211 rfl (lv_at hl 0 rfl) ?_
  refine x_get S hK hP 0 rfl cfX2 18 lkX2_39 (by decide) rfl dX2_copy_212 ?_
  refine lv_iconst (v := 0) hx hb dX2_copy_215 (by decide) ?_
  refine lv_bipush (v := 42) hx hb dX2_copy_216 (by decide) ?_
  refine x_copyi (ws' := fun f_10 => [((a 0), .inr (2, [.int w0, .int w1, .int w2, .int w3, .int w4, .int w5, .int w6, .int w7, .int w8, .ref (a 1), .ref (a 2), .ref (a 3), .ref (a 4), .ref (a 5), .ref (a 6), .ref (a 7), .ref (a 8), .ref (a 9), .ref (a 10)])), ((a 1), .inl (k 0, 12, .inl f_1)), ((a 2), .inl (k 0, 12, .inl f_2)), ((a 3), .inl (k 0, 12, .inl f_3)), ((a 4), .inl (k 0, 12, .inl f_4)), ((a 5), .inl (k 0, 12, .inl f_5)), ((a 6), .inl (k 0, 12, .inl f_6)), ((a 7), .inl (k 0, 4, .inl f_7)), ((a 8), .inl (k 0, 42, .inl f_8)), ((a 9), .inl (k 0, 42, .inl f_9)), ((a 10), .inl (k 0, 42, .inl f_10)), ((b 0), .inr (2, [.int w0, .int w1, .int w2, .int w3, .int w4, .int w5, .int w6, .int w7, .int w8, .ref (b 1), .ref (b 2), .ref (b 3), .ref (b 4), .ref (b 5), .ref (b 6), .ref (b 7), .ref (b 8), .ref (b 9), .ref (b 10)])), ((b 1), .inl (k 0, 12, .inl g0)), ((b 2), .inl (k 0, 12, .inl g1)), ((b 3), .inl (k 0, 12, .inl g2)), ((b 4), .inl (k 0, 12, .inl g3)), ((b 5), .inl (k 0, 12, .inl g4)), ((b 6), .inl (k 0, 12, .inl g5)), ((b 7), .inl (k 0, 4, .inl g6)), ((b 8), .inl (k 0, 42, .inl g7)), ((b 9), .inl (k 0, 42, .inl g8)), ((b 10), .inl (k 0, 42, .inl g9))]) S hK hP hD hS hl lkX2_70 21 10 rfl rfl (by decide) (by decide) (by decide) (by decide) (by decide) ⟨Nat.le_of_ble_eq_true rfl, Nat.le_of_ble_eq_true rfl⟩ (fun _ => rfl) dX2_copy_218 (fun f_10 H locs ef_10 hP hD hS => ?_)
  exact x_retv S hr hlk hQ hS (fun i => ([f_1, f_2, f_3, f_4, f_5, f_6, f_7, f_8, f_9, f_10] : List (Nat → Int32)).getD i (fun _ => 0)) trivial (x_B (hP.sub [0, 1, 2, 3, 4, 5, 6, 7, 8, 9, 10, 11, 12, 13, 14, 15, 16, 17, 18, 19, 20, 21] rfl) (hD.sub [0, 1, 2, 3, 4, 5, 6, 7, 8, 9, 10, 11, 12, 13, 14, 15, 16, 17, 18, 19, 20, 21] (by decide) rfl)) dX2_copy_221

theorem lfctX10_image_0 (p0 : Int32) (c_1 : p0 < 0) : (-2) = (imageAns p0) := (by
  simp only [imageAns]
  repeat' split
  all_goals first | rfl | assumption | (exfalso; simp only [fa_lt, fa_le, fa_eq, fa_lt64, fa_le64, fa_eq64, Int32.toInt_toInt64, tz_0, tz_1, tz_2, tz_3, tz_4, tz_5, tz_6, tz_7, tz_8, tz_9, tz_10, tz_60, tz_m1, tl_0, tl_1, tl_2, tl_3, tl_4, tl_5, tl_6, tl_7, tl_8, tl_9, tl_10, tl_60, tl_m1] at * <;> omega))
theorem lfctX10_image_1 (p0 : Int32) (c_1 : ¬ p0 < 0) (c_2 : p0 < 3) (e_3 : p0 = 0) : 0 = (imageAns p0) := (by
  simp only [imageAns]
  repeat' split
  all_goals first | rfl | assumption | (exfalso; simp only [fa_lt, fa_le, fa_eq, fa_lt64, fa_le64, fa_eq64, Int32.toInt_toInt64, tz_0, tz_1, tz_2, tz_3, tz_4, tz_5, tz_6, tz_7, tz_8, tz_9, tz_10, tz_60, tz_m1, tl_0, tl_1, tl_2, tl_3, tl_4, tl_5, tl_6, tl_7, tl_8, tl_9, tl_10, tl_60, tl_m1] at * <;> omega))
theorem lfctX10_image_2 (p0 : Int32) (c_1 : ¬ p0 < 0) (c_2 : p0 < 3) (e_4 : p0 = 1) : 0 = (imageAns p0) := (by
  simp only [imageAns]
  repeat' split
  all_goals first | rfl | assumption | (exfalso; simp only [fa_lt, fa_le, fa_eq, fa_lt64, fa_le64, fa_eq64, Int32.toInt_toInt64, tz_0, tz_1, tz_2, tz_3, tz_4, tz_5, tz_6, tz_7, tz_8, tz_9, tz_10, tz_60, tz_m1, tl_0, tl_1, tl_2, tl_3, tl_4, tl_5, tl_6, tl_7, tl_8, tl_9, tl_10, tl_60, tl_m1] at * <;> omega))
theorem lfctX10_image_3 (p0 : Int32) (c_1 : ¬ p0 < 0) (c_2 : p0 < 3) (e_5 : p0 = 2) : 0 = (imageAns p0) := (by
  simp only [imageAns]
  repeat' split
  all_goals first | rfl | assumption | (exfalso; simp only [fa_lt, fa_le, fa_eq, fa_lt64, fa_le64, fa_eq64, Int32.toInt_toInt64, tz_0, tz_1, tz_2, tz_3, tz_4, tz_5, tz_6, tz_7, tz_8, tz_9, tz_10, tz_60, tz_m1, tl_0, tl_1, tl_2, tl_3, tl_4, tl_5, tl_6, tl_7, tl_8, tl_9, tl_10, tl_60, tl_m1] at * <;> omega))
theorem lfctX10_image_4 (p0 : Int32) (c_1 : ¬ p0 < 0) (c_2 : ¬ p0 < 3) : (-2) = (imageAns p0) := (by
  simp only [imageAns]
  repeat' split
  all_goals first | rfl | assumption | (exfalso; simp only [fa_lt, fa_le, fa_eq, fa_lt64, fa_le64, fa_eq64, Int32.toInt_toInt64, tz_0, tz_1, tz_2, tz_3, tz_4, tz_5, tz_6, tz_7, tz_8, tz_9, tz_10, tz_60, tz_m1, tl_0, tl_1, tl_2, tl_3, tl_4, tl_5, tl_6, tl_7, tl_8, tl_9, tl_10, tl_60, tl_m1] at * <;> omega))
set_option maxHeartbeats 4000000 in
set_option maxRecDepth 100000 in
theorem ctX10_image (l : Launch) (D : va_G) (k : Nat → ClassId) (o : Nat → Nat) (p0 : Int32)  : MU l yX10_image cX10_image 2 (some .int) 2 D k [.ref (o 0), .int p0] [((o 0), .inr (10, [.ref (o 1), .ref (o 2), .ref (o 3), .ref (o 4), .ref (o 5), .ref (o 6), .ref (o 7), .ref (o 8), .ref (o 9), .ref (o 10), .ref (o 11), .ref (o 12), .ref (o 13), .ref (o 14)])), ((o 3), .inr (2, [.int 0, .int 0, .int 0, .int 0, .int 0, .int 0, .int 0, .int 0, .int 0, .ref (o 26), .ref (o 27), .ref (o 28), .ref (o 29), .ref (o 30), .ref (o 31), .ref (o 32), .ref (o 33), .ref (o 34), .ref (o 35)])), ((o 26), .inl (k 0, 12, .inl (fun _ => 0))), ((o 27), .inl (k 0, 12, .inl (fun _ => 0))), ((o 28), .inl (k 0, 12, .inl (fun _ => 0))), ((o 29), .inl (k 0, 12, .inl (fun _ => 0))), ((o 30), .inl (k 0, 12, .inl (fun _ => 0))), ((o 31), .inl (k 0, 12, .inl (fun _ => 0))), ((o 32), .inl (k 0, 4, .inl (fun _ => 0))), ((o 33), .inl (k 0, 42, .inl (fun _ => 0))), ((o 34), .inl (k 0, 42, .inl (fun _ => 0))), ((o 35), .inl (k 0, 42, .inl (fun _ => 0))), ((o 13), .inl (k 4, 3, .inr (.inr (.inr (.inr (va_up (va_up (va_up (fun _ => none) 0 (some (o 36))) 1 (some (o 47))) 2 (some (o 58)))))))), ((o 36), .inr (2, [.int 0, .int 0, .int 0, .int 0, .int 0, .int 0, .int 0, .int 0, .int 0, .ref (o 37), .ref (o 38), .ref (o 39), .ref (o 40), .ref (o 41), .ref (o 42), .ref (o 43), .ref (o 44), .ref (o 45), .ref (o 46)])), ((o 37), .inl (k 0, 12, .inl (fun _ => 0))), ((o 38), .inl (k 0, 12, .inl (fun _ => 0))), ((o 39), .inl (k 0, 12, .inl (fun _ => 0))), ((o 40), .inl (k 0, 12, .inl (fun _ => 0))), ((o 41), .inl (k 0, 12, .inl (fun _ => 0))), ((o 42), .inl (k 0, 12, .inl (fun _ => 0))), ((o 43), .inl (k 0, 4, .inl (fun _ => 0))), ((o 44), .inl (k 0, 42, .inl (fun _ => 0))), ((o 45), .inl (k 0, 42, .inl (fun _ => 0))), ((o 46), .inl (k 0, 42, .inl (fun _ => 0))), ((o 47), .inr (2, [.int 0, .int 0, .int 0, .int 0, .int 0, .int 0, .int 0, .int 0, .int 0, .ref (o 48), .ref (o 49), .ref (o 50), .ref (o 51), .ref (o 52), .ref (o 53), .ref (o 54), .ref (o 55), .ref (o 56), .ref (o 57)])), ((o 48), .inl (k 0, 12, .inl (fun _ => 0))), ((o 49), .inl (k 0, 12, .inl (fun _ => 0))), ((o 50), .inl (k 0, 12, .inl (fun _ => 0))), ((o 51), .inl (k 0, 12, .inl (fun _ => 0))), ((o 52), .inl (k 0, 12, .inl (fun _ => 0))), ((o 53), .inl (k 0, 12, .inl (fun _ => 0))), ((o 54), .inl (k 0, 4, .inl (fun _ => 0))), ((o 55), .inl (k 0, 42, .inl (fun _ => 0))), ((o 56), .inl (k 0, 42, .inl (fun _ => 0))), ((o 57), .inl (k 0, 42, .inl (fun _ => 0))), ((o 58), .inr (2, [.int 0, .int 0, .int 0, .int 0, .int 0, .int 0, .int 0, .int 0, .int 0, .ref (o 59), .ref (o 60), .ref (o 61), .ref (o 62), .ref (o 63), .ref (o 64), .ref (o 65), .ref (o 66), .ref (o 67), .ref (o 68)])), ((o 59), .inl (k 0, 12, .inl (fun _ => 0))), ((o 60), .inl (k 0, 12, .inl (fun _ => 0))), ((o 61), .inl (k 0, 12, .inl (fun _ => 0))), ((o 62), .inl (k 0, 12, .inl (fun _ => 0))), ((o 63), .inl (k 0, 12, .inl (fun _ => 0))), ((o 64), .inl (k 0, 12, .inl (fun _ => 0))), ((o 65), .inl (k 0, 4, .inl (fun _ => 0))), ((o 66), .inl (k 0, 42, .inl (fun _ => 0))), ((o 67), .inl (k 0, 42, .inl (fun _ => 0))), ((o 68), .inl (k 0, 42, .inl (fun _ => 0))), ((o 14), .inl (k 3, 3, .inl (fun _ => 0)))] 0 0 (Ui D (fun (r : Int32) (u : Unit) => r = (imageAns p0)) (fun _ : Unit => [])) := by
  refine MU.of (by decide) (Nat.le_of_ble_eq_true rfl) ?_
  intro p e s m below meth c ls A args Q S hr hlk hnm hQ hK hP hD hA hS hl
  have hx := S.1
  have hb := S.2.1
  have hl : lv_has ls 2 [(0, .ref (o 0)), (1, .int p0)] := hl
  refine lv_iload_n hx hb dX10_image_0 rfl (lv_at hl 1 rfl) ?_
  refine lv_if_lt (tgt := 9) hx hb dX10_image_1 (by decide) (fun c_1 => ?_) (fun c_1 => ?_)
  · skip
    refine lv_bipush (v := (-2)) hx hb dX10_image_9 (by decide) ?_
    exact x_reti S hr hlk hQ hS () (lfctX10_image_0 p0 c_1) (x_B P_nil D_nil) dX10_image_11
  · skip
    refine lv_iload_n hx hb dX10_image_4 rfl (lv_at hl 1 rfl) ?_
    refine lv_iconst (v := 3) hx hb dX10_image_5 (by decide) ?_
    refine lv_icmp_lt (tgt := 12) hx hb dX10_image_6 (by decide) (fun c_2 => ?_) (fun c_2 => ?_)
    · skip
      rcases (three c_1 c_2) with e_3 | e_4 | e_5
      · skip
        have hl : lv_has ls 2 [(0, .ref (o 0)), (1, .int 0)] := by rw [e_3] at hl; exact hl
        refine lv_aload_n hx hb dX10_image_12 rfl (lv_at hl 0 rfl) ?_
        refine x_get S hK hP 0 rfl cfX10 12 lkX10_95 (by decide) rfl dX10_image_13 ?_
        refine lv_iload_n hx hb dX10_image_16 rfl (lv_at hl 1 rfl) ?_
        refine x_qald (v := (o 36)) S hK hP 12 rfl (vp_lit (by decide)) rfl dX10_image_17 ?_
        refine lv_aload_n hx hb dX10_image_18 rfl (lv_at hl 0 rfl) ?_
        refine x_get S hK hP 0 rfl cfX10 2 lkX10_23 (by decide) rfl dX10_image_19 ?_
        refine x_muVv (wr := [((o 0), .inr (10, [.ref (o 1), .ref (o 2), .ref (o 3), .ref (o 4), .ref (o 5), .ref (o 6), .ref (o 7), .ref (o 8), .ref (o 9), .ref (o 10), .ref (o 11), .ref (o 12), .ref (o 13), .ref (o 14)])), ((o 13), .inl (k 4, 3, .inr (.inr (.inr (.inr (va_up (va_up (va_up (fun _ => none) 0 (some (o 36))) 1 (some (o 47))) 2 (some (o 58)))))))), ((o 47), .inr (2, [.int 0, .int 0, .int 0, .int 0, .int 0, .int 0, .int 0, .int 0, .int 0, .ref (o 48), .ref (o 49), .ref (o 50), .ref (o 51), .ref (o 52), .ref (o 53), .ref (o 54), .ref (o 55), .ref (o 56), .ref (o 57)])), ((o 48), .inl (k 0, 12, .inl (fun _ => 0))), ((o 49), .inl (k 0, 12, .inl (fun _ => 0))), ((o 50), .inl (k 0, 12, .inl (fun _ => 0))), ((o 51), .inl (k 0, 12, .inl (fun _ => 0))), ((o 52), .inl (k 0, 12, .inl (fun _ => 0))), ((o 53), .inl (k 0, 12, .inl (fun _ => 0))), ((o 54), .inl (k 0, 4, .inl (fun _ => 0))), ((o 55), .inl (k 0, 42, .inl (fun _ => 0))), ((o 56), .inl (k 0, 42, .inl (fun _ => 0))), ((o 57), .inl (k 0, 42, .inl (fun _ => 0))), ((o 58), .inr (2, [.int 0, .int 0, .int 0, .int 0, .int 0, .int 0, .int 0, .int 0, .int 0, .ref (o 59), .ref (o 60), .ref (o 61), .ref (o 62), .ref (o 63), .ref (o 64), .ref (o 65), .ref (o 66), .ref (o 67), .ref (o 68)])), ((o 59), .inl (k 0, 12, .inl (fun _ => 0))), ((o 60), .inl (k 0, 12, .inl (fun _ => 0))), ((o 61), .inl (k 0, 12, .inl (fun _ => 0))), ((o 62), .inl (k 0, 12, .inl (fun _ => 0))), ((o 63), .inl (k 0, 12, .inl (fun _ => 0))), ((o 64), .inl (k 0, 12, .inl (fun _ => 0))), ((o 65), .inl (k 0, 4, .inl (fun _ => 0))), ((o 66), .inl (k 0, 42, .inl (fun _ => 0))), ((o 67), .inl (k 0, 42, .inl (fun _ => 0))), ((o 68), .inl (k 0, 42, .inl (fun _ => 0))), ((o 14), .inl (k 3, 3, .inl (fun _ => 0)))]) (As := [.ref (o 3)]) S hK hP hD hS hA hl mwX2_copy lkX10_122 (ctX2_copy l D k (fun i => ([(o 36), (o 37), (o 38), (o 39), (o 40), (o 41), (o 42), (o 43), (o 44), (o 45), (o 46)] : List Nat).getD i 0) (fun i => ([(o 3), (o 26), (o 27), (o 28), (o 29), (o 30), (o 31), (o 32), (o 33), (o 34), (o 35)] : List Nat).getD i 0) 0 0 0 0 0 0 0 0 0 0 0 0 0 0 0 0 0 0 (fun _ => 0) (fun _ => 0) (fun _ => 0) (fun _ => 0) (fun _ => 0) (fun _ => 0) (fun _ => 0) (fun _ => 0) (fun _ => 0) (fun _ => 0) (fun _ => 0) (fun _ => 0) (fun _ => 0) (fun _ => 0) (fun _ => 0) (fun _ => 0) (fun _ => 0) (fun _ => 0) (fun _ => 0) (fun _ => 0) ) [13, 14, 15, 16, 17, 18, 19, 20, 21, 22, 23, 1, 2, 3, 4, 5, 6, 7, 8, 9, 10, 11] [0, 12, 24, 25, 26, 27, 28, 29, 30, 31, 32, 33, 34, 35, 36, 37, 38, 39, 40, 41, 42, 43, 44, 45, 46] rfl rfl (by decide) (by decide) (by decide) rfl rfl rfl rfl rfl ⟨Nat.le_of_ble_eq_true rfl, Nat.le_of_ble_eq_true rfl, Nat.le_of_ble_eq_true rfl⟩ dX10_image_22 ⟨Nat.le_of_ble_eq_true rfl, Nat.le_of_ble_eq_true rfl⟩ (fun u_7 H locs hr_6 hP hD hS => ?_)
        have hP : va_P D vwCl [((o 0), .inr (10, [.ref (o 1), .ref (o 2), .ref (o 3), .ref (o 4), .ref (o 5), .ref (o 6), .ref (o 7), .ref (o 8), .ref (o 9), .ref (o 10), .ref (o 11), .ref (o 12), .ref (o 13), .ref (o 14)])), ((o 13), .inl (k 4, 3, .inr (.inr (.inr (.inr (va_up (va_up (va_up (fun _ => none) 0 (some (o 36))) 1 (some (o 47))) 2 (some (o 58)))))))), ((o 47), .inr (2, [.int 0, .int 0, .int 0, .int 0, .int 0, .int 0, .int 0, .int 0, .int 0, .ref (o 48), .ref (o 49), .ref (o 50), .ref (o 51), .ref (o 52), .ref (o 53), .ref (o 54), .ref (o 55), .ref (o 56), .ref (o 57)])), ((o 48), .inl (k 0, 12, .inl (fun _ => 0))), ((o 49), .inl (k 0, 12, .inl (fun _ => 0))), ((o 50), .inl (k 0, 12, .inl (fun _ => 0))), ((o 51), .inl (k 0, 12, .inl (fun _ => 0))), ((o 52), .inl (k 0, 12, .inl (fun _ => 0))), ((o 53), .inl (k 0, 12, .inl (fun _ => 0))), ((o 54), .inl (k 0, 4, .inl (fun _ => 0))), ((o 55), .inl (k 0, 42, .inl (fun _ => 0))), ((o 56), .inl (k 0, 42, .inl (fun _ => 0))), ((o 57), .inl (k 0, 42, .inl (fun _ => 0))), ((o 58), .inr (2, [.int 0, .int 0, .int 0, .int 0, .int 0, .int 0, .int 0, .int 0, .int 0, .ref (o 59), .ref (o 60), .ref (o 61), .ref (o 62), .ref (o 63), .ref (o 64), .ref (o 65), .ref (o 66), .ref (o 67), .ref (o 68)])), ((o 59), .inl (k 0, 12, .inl (fun _ => 0))), ((o 60), .inl (k 0, 12, .inl (fun _ => 0))), ((o 61), .inl (k 0, 12, .inl (fun _ => 0))), ((o 62), .inl (k 0, 12, .inl (fun _ => 0))), ((o 63), .inl (k 0, 12, .inl (fun _ => 0))), ((o 64), .inl (k 0, 12, .inl (fun _ => 0))), ((o 65), .inl (k 0, 4, .inl (fun _ => 0))), ((o 66), .inl (k 0, 42, .inl (fun _ => 0))), ((o 67), .inl (k 0, 42, .inl (fun _ => 0))), ((o 68), .inl (k 0, 42, .inl (fun _ => 0))), ((o 14), .inl (k 3, 3, .inl (fun _ => 0))), ((o 36), .inr (2, [.int 0, .int 0, .int 0, .int 0, .int 0, .int 0, .int 0, .int 0, .int 0, .ref (o 37), .ref (o 38), .ref (o 39), .ref (o 40), .ref (o 41), .ref (o 42), .ref (o 43), .ref (o 44), .ref (o 45), .ref (o 46)])), ((o 37), .inl (k 0, 12, .inl (u_7 0))), ((o 38), .inl (k 0, 12, .inl (u_7 1))), ((o 39), .inl (k 0, 12, .inl (u_7 2))), ((o 40), .inl (k 0, 12, .inl (u_7 3))), ((o 41), .inl (k 0, 12, .inl (u_7 4))), ((o 42), .inl (k 0, 12, .inl (u_7 5))), ((o 43), .inl (k 0, 4, .inl (u_7 6))), ((o 44), .inl (k 0, 42, .inl (u_7 7))), ((o 45), .inl (k 0, 42, .inl (u_7 8))), ((o 46), .inl (k 0, 42, .inl (u_7 9))), ((o 3), .inr (2, [.int 0, .int 0, .int 0, .int 0, .int 0, .int 0, .int 0, .int 0, .int 0, .ref (o 26), .ref (o 27), .ref (o 28), .ref (o 29), .ref (o 30), .ref (o 31), .ref (o 32), .ref (o 33), .ref (o 34), .ref (o 35)])), ((o 26), .inl (k 0, 12, .inl (fun _ => 0))), ((o 27), .inl (k 0, 12, .inl (fun _ => 0))), ((o 28), .inl (k 0, 12, .inl (fun _ => 0))), ((o 29), .inl (k 0, 12, .inl (fun _ => 0))), ((o 30), .inl (k 0, 12, .inl (fun _ => 0))), ((o 31), .inl (k 0, 12, .inl (fun _ => 0))), ((o 32), .inl (k 0, 4, .inl (fun _ => 0))), ((o 33), .inl (k 0, 42, .inl (fun _ => 0))), ((o 34), .inl (k 0, 42, .inl (fun _ => 0))), ((o 35), .inl (k 0, 42, .inl (fun _ => 0)))] H := hP
        have hD : va_D A [((o 0), .inr (10, [.ref (o 1), .ref (o 2), .ref (o 3), .ref (o 4), .ref (o 5), .ref (o 6), .ref (o 7), .ref (o 8), .ref (o 9), .ref (o 10), .ref (o 11), .ref (o 12), .ref (o 13), .ref (o 14)])), ((o 13), .inl (k 4, 3, .inr (.inr (.inr (.inr (va_up (va_up (va_up (fun _ => none) 0 (some (o 36))) 1 (some (o 47))) 2 (some (o 58)))))))), ((o 47), .inr (2, [.int 0, .int 0, .int 0, .int 0, .int 0, .int 0, .int 0, .int 0, .int 0, .ref (o 48), .ref (o 49), .ref (o 50), .ref (o 51), .ref (o 52), .ref (o 53), .ref (o 54), .ref (o 55), .ref (o 56), .ref (o 57)])), ((o 48), .inl (k 0, 12, .inl (fun _ => 0))), ((o 49), .inl (k 0, 12, .inl (fun _ => 0))), ((o 50), .inl (k 0, 12, .inl (fun _ => 0))), ((o 51), .inl (k 0, 12, .inl (fun _ => 0))), ((o 52), .inl (k 0, 12, .inl (fun _ => 0))), ((o 53), .inl (k 0, 12, .inl (fun _ => 0))), ((o 54), .inl (k 0, 4, .inl (fun _ => 0))), ((o 55), .inl (k 0, 42, .inl (fun _ => 0))), ((o 56), .inl (k 0, 42, .inl (fun _ => 0))), ((o 57), .inl (k 0, 42, .inl (fun _ => 0))), ((o 58), .inr (2, [.int 0, .int 0, .int 0, .int 0, .int 0, .int 0, .int 0, .int 0, .int 0, .ref (o 59), .ref (o 60), .ref (o 61), .ref (o 62), .ref (o 63), .ref (o 64), .ref (o 65), .ref (o 66), .ref (o 67), .ref (o 68)])), ((o 59), .inl (k 0, 12, .inl (fun _ => 0))), ((o 60), .inl (k 0, 12, .inl (fun _ => 0))), ((o 61), .inl (k 0, 12, .inl (fun _ => 0))), ((o 62), .inl (k 0, 12, .inl (fun _ => 0))), ((o 63), .inl (k 0, 12, .inl (fun _ => 0))), ((o 64), .inl (k 0, 12, .inl (fun _ => 0))), ((o 65), .inl (k 0, 4, .inl (fun _ => 0))), ((o 66), .inl (k 0, 42, .inl (fun _ => 0))), ((o 67), .inl (k 0, 42, .inl (fun _ => 0))), ((o 68), .inl (k 0, 42, .inl (fun _ => 0))), ((o 14), .inl (k 3, 3, .inl (fun _ => 0))), ((o 36), .inr (2, [.int 0, .int 0, .int 0, .int 0, .int 0, .int 0, .int 0, .int 0, .int 0, .ref (o 37), .ref (o 38), .ref (o 39), .ref (o 40), .ref (o 41), .ref (o 42), .ref (o 43), .ref (o 44), .ref (o 45), .ref (o 46)])), ((o 37), .inl (k 0, 12, .inl (u_7 0))), ((o 38), .inl (k 0, 12, .inl (u_7 1))), ((o 39), .inl (k 0, 12, .inl (u_7 2))), ((o 40), .inl (k 0, 12, .inl (u_7 3))), ((o 41), .inl (k 0, 12, .inl (u_7 4))), ((o 42), .inl (k 0, 12, .inl (u_7 5))), ((o 43), .inl (k 0, 4, .inl (u_7 6))), ((o 44), .inl (k 0, 42, .inl (u_7 7))), ((o 45), .inl (k 0, 42, .inl (u_7 8))), ((o 46), .inl (k 0, 42, .inl (u_7 9))), ((o 3), .inr (2, [.int 0, .int 0, .int 0, .int 0, .int 0, .int 0, .int 0, .int 0, .int 0, .ref (o 26), .ref (o 27), .ref (o 28), .ref (o 29), .ref (o 30), .ref (o 31), .ref (o 32), .ref (o 33), .ref (o 34), .ref (o 35)])), ((o 26), .inl (k 0, 12, .inl (fun _ => 0))), ((o 27), .inl (k 0, 12, .inl (fun _ => 0))), ((o 28), .inl (k 0, 12, .inl (fun _ => 0))), ((o 29), .inl (k 0, 12, .inl (fun _ => 0))), ((o 30), .inl (k 0, 12, .inl (fun _ => 0))), ((o 31), .inl (k 0, 12, .inl (fun _ => 0))), ((o 32), .inl (k 0, 4, .inl (fun _ => 0))), ((o 33), .inl (k 0, 42, .inl (fun _ => 0))), ((o 34), .inl (k 0, 42, .inl (fun _ => 0))), ((o 35), .inl (k 0, 42, .inl (fun _ => 0)))] := hD
        refine lv_aload_n hx hb dX10_image_25 rfl (lv_at hl 0 rfl) ?_
        refine x_get S hK hP 0 rfl cfX10 13 lkX10_99 (by decide) rfl dX10_image_26 ?_
        refine lv_iload_n hx hb dX10_image_29 rfl (lv_at hl 1 rfl) ?_
        refine lv_iconst (v := 1) hx hb dX10_image_30 (by decide) ?_
        refine x_zast (ws' := fun f_8 => [((o 0), .inr (10, [.ref (o 1), .ref (o 2), .ref (o 3), .ref (o 4), .ref (o 5), .ref (o 6), .ref (o 7), .ref (o 8), .ref (o 9), .ref (o 10), .ref (o 11), .ref (o 12), .ref (o 13), .ref (o 14)])), ((o 13), .inl (k 4, 3, .inr (.inr (.inr (.inr (va_up (va_up (va_up (fun _ => none) 0 (some (o 36))) 1 (some (o 47))) 2 (some (o 58)))))))), ((o 47), .inr (2, [.int 0, .int 0, .int 0, .int 0, .int 0, .int 0, .int 0, .int 0, .int 0, .ref (o 48), .ref (o 49), .ref (o 50), .ref (o 51), .ref (o 52), .ref (o 53), .ref (o 54), .ref (o 55), .ref (o 56), .ref (o 57)])), ((o 48), .inl (k 0, 12, .inl (fun _ => 0))), ((o 49), .inl (k 0, 12, .inl (fun _ => 0))), ((o 50), .inl (k 0, 12, .inl (fun _ => 0))), ((o 51), .inl (k 0, 12, .inl (fun _ => 0))), ((o 52), .inl (k 0, 12, .inl (fun _ => 0))), ((o 53), .inl (k 0, 12, .inl (fun _ => 0))), ((o 54), .inl (k 0, 4, .inl (fun _ => 0))), ((o 55), .inl (k 0, 42, .inl (fun _ => 0))), ((o 56), .inl (k 0, 42, .inl (fun _ => 0))), ((o 57), .inl (k 0, 42, .inl (fun _ => 0))), ((o 58), .inr (2, [.int 0, .int 0, .int 0, .int 0, .int 0, .int 0, .int 0, .int 0, .int 0, .ref (o 59), .ref (o 60), .ref (o 61), .ref (o 62), .ref (o 63), .ref (o 64), .ref (o 65), .ref (o 66), .ref (o 67), .ref (o 68)])), ((o 59), .inl (k 0, 12, .inl (fun _ => 0))), ((o 60), .inl (k 0, 12, .inl (fun _ => 0))), ((o 61), .inl (k 0, 12, .inl (fun _ => 0))), ((o 62), .inl (k 0, 12, .inl (fun _ => 0))), ((o 63), .inl (k 0, 12, .inl (fun _ => 0))), ((o 64), .inl (k 0, 12, .inl (fun _ => 0))), ((o 65), .inl (k 0, 4, .inl (fun _ => 0))), ((o 66), .inl (k 0, 42, .inl (fun _ => 0))), ((o 67), .inl (k 0, 42, .inl (fun _ => 0))), ((o 68), .inl (k 0, 42, .inl (fun _ => 0))), ((o 14), .inl (k 3, 3, .inl f_8)), ((o 36), .inr (2, [.int 0, .int 0, .int 0, .int 0, .int 0, .int 0, .int 0, .int 0, .int 0, .ref (o 37), .ref (o 38), .ref (o 39), .ref (o 40), .ref (o 41), .ref (o 42), .ref (o 43), .ref (o 44), .ref (o 45), .ref (o 46)])), ((o 37), .inl (k 0, 12, .inl (u_7 0))), ((o 38), .inl (k 0, 12, .inl (u_7 1))), ((o 39), .inl (k 0, 12, .inl (u_7 2))), ((o 40), .inl (k 0, 12, .inl (u_7 3))), ((o 41), .inl (k 0, 12, .inl (u_7 4))), ((o 42), .inl (k 0, 12, .inl (u_7 5))), ((o 43), .inl (k 0, 4, .inl (u_7 6))), ((o 44), .inl (k 0, 42, .inl (u_7 7))), ((o 45), .inl (k 0, 42, .inl (u_7 8))), ((o 46), .inl (k 0, 42, .inl (u_7 9))), ((o 3), .inr (2, [.int 0, .int 0, .int 0, .int 0, .int 0, .int 0, .int 0, .int 0, .int 0, .ref (o 26), .ref (o 27), .ref (o 28), .ref (o 29), .ref (o 30), .ref (o 31), .ref (o 32), .ref (o 33), .ref (o 34), .ref (o 35)])), ((o 26), .inl (k 0, 12, .inl (fun _ => 0))), ((o 27), .inl (k 0, 12, .inl (fun _ => 0))), ((o 28), .inl (k 0, 12, .inl (fun _ => 0))), ((o 29), .inl (k 0, 12, .inl (fun _ => 0))), ((o 30), .inl (k 0, 12, .inl (fun _ => 0))), ((o 31), .inl (k 0, 12, .inl (fun _ => 0))), ((o 32), .inl (k 0, 4, .inl (fun _ => 0))), ((o 33), .inl (k 0, 42, .inl (fun _ => 0))), ((o 34), .inl (k 0, 42, .inl (fun _ => 0))), ((o 35), .inl (k 0, 42, .inl (fun _ => 0)))]) S hK hP hD hS 24 rfl (vp_lit (by decide)) (fun _ => rfl) dX10_image_31 (fun f_8 H locs ef_8 hP hD hS => ?_)
        refine lv_iconst (v := 0) hx hb dX10_image_32 (by decide) ?_
        exact x_reti S hr hlk hQ hS () (lfctX10_image_1 p0 c_1 c_2 e_3) (x_B P_nil D_nil) dX10_image_33
      · skip
        have hl : lv_has ls 2 [(0, .ref (o 0)), (1, .int 1)] := by rw [e_4] at hl; exact hl
        refine lv_aload_n hx hb dX10_image_12 rfl (lv_at hl 0 rfl) ?_
        refine x_get S hK hP 0 rfl cfX10 12 lkX10_95 (by decide) rfl dX10_image_13 ?_
        refine lv_iload_n hx hb dX10_image_16 rfl (lv_at hl 1 rfl) ?_
        refine x_qald (v := (o 47)) S hK hP 12 rfl (vp_lit (by decide)) rfl dX10_image_17 ?_
        refine lv_aload_n hx hb dX10_image_18 rfl (lv_at hl 0 rfl) ?_
        refine x_get S hK hP 0 rfl cfX10 2 lkX10_23 (by decide) rfl dX10_image_19 ?_
        refine x_muVv (wr := [((o 0), .inr (10, [.ref (o 1), .ref (o 2), .ref (o 3), .ref (o 4), .ref (o 5), .ref (o 6), .ref (o 7), .ref (o 8), .ref (o 9), .ref (o 10), .ref (o 11), .ref (o 12), .ref (o 13), .ref (o 14)])), ((o 13), .inl (k 4, 3, .inr (.inr (.inr (.inr (va_up (va_up (va_up (fun _ => none) 0 (some (o 36))) 1 (some (o 47))) 2 (some (o 58)))))))), ((o 36), .inr (2, [.int 0, .int 0, .int 0, .int 0, .int 0, .int 0, .int 0, .int 0, .int 0, .ref (o 37), .ref (o 38), .ref (o 39), .ref (o 40), .ref (o 41), .ref (o 42), .ref (o 43), .ref (o 44), .ref (o 45), .ref (o 46)])), ((o 37), .inl (k 0, 12, .inl (fun _ => 0))), ((o 38), .inl (k 0, 12, .inl (fun _ => 0))), ((o 39), .inl (k 0, 12, .inl (fun _ => 0))), ((o 40), .inl (k 0, 12, .inl (fun _ => 0))), ((o 41), .inl (k 0, 12, .inl (fun _ => 0))), ((o 42), .inl (k 0, 12, .inl (fun _ => 0))), ((o 43), .inl (k 0, 4, .inl (fun _ => 0))), ((o 44), .inl (k 0, 42, .inl (fun _ => 0))), ((o 45), .inl (k 0, 42, .inl (fun _ => 0))), ((o 46), .inl (k 0, 42, .inl (fun _ => 0))), ((o 58), .inr (2, [.int 0, .int 0, .int 0, .int 0, .int 0, .int 0, .int 0, .int 0, .int 0, .ref (o 59), .ref (o 60), .ref (o 61), .ref (o 62), .ref (o 63), .ref (o 64), .ref (o 65), .ref (o 66), .ref (o 67), .ref (o 68)])), ((o 59), .inl (k 0, 12, .inl (fun _ => 0))), ((o 60), .inl (k 0, 12, .inl (fun _ => 0))), ((o 61), .inl (k 0, 12, .inl (fun _ => 0))), ((o 62), .inl (k 0, 12, .inl (fun _ => 0))), ((o 63), .inl (k 0, 12, .inl (fun _ => 0))), ((o 64), .inl (k 0, 12, .inl (fun _ => 0))), ((o 65), .inl (k 0, 4, .inl (fun _ => 0))), ((o 66), .inl (k 0, 42, .inl (fun _ => 0))), ((o 67), .inl (k 0, 42, .inl (fun _ => 0))), ((o 68), .inl (k 0, 42, .inl (fun _ => 0))), ((o 14), .inl (k 3, 3, .inl (fun _ => 0)))]) (As := [.ref (o 3)]) S hK hP hD hS hA hl mwX2_copy lkX10_122 (ctX2_copy l D k (fun i => ([(o 47), (o 48), (o 49), (o 50), (o 51), (o 52), (o 53), (o 54), (o 55), (o 56), (o 57)] : List Nat).getD i 0) (fun i => ([(o 3), (o 26), (o 27), (o 28), (o 29), (o 30), (o 31), (o 32), (o 33), (o 34), (o 35)] : List Nat).getD i 0) 0 0 0 0 0 0 0 0 0 0 0 0 0 0 0 0 0 0 (fun _ => 0) (fun _ => 0) (fun _ => 0) (fun _ => 0) (fun _ => 0) (fun _ => 0) (fun _ => 0) (fun _ => 0) (fun _ => 0) (fun _ => 0) (fun _ => 0) (fun _ => 0) (fun _ => 0) (fun _ => 0) (fun _ => 0) (fun _ => 0) (fun _ => 0) (fun _ => 0) (fun _ => 0) (fun _ => 0) ) [24, 25, 26, 27, 28, 29, 30, 31, 32, 33, 34, 1, 2, 3, 4, 5, 6, 7, 8, 9, 10, 11] [0, 12, 13, 14, 15, 16, 17, 18, 19, 20, 21, 22, 23, 35, 36, 37, 38, 39, 40, 41, 42, 43, 44, 45, 46] rfl rfl (by decide) (by decide) (by decide) rfl rfl rfl rfl rfl ⟨Nat.le_of_ble_eq_true rfl, Nat.le_of_ble_eq_true rfl, Nat.le_of_ble_eq_true rfl⟩ dX10_image_22 ⟨Nat.le_of_ble_eq_true rfl, Nat.le_of_ble_eq_true rfl⟩ (fun u_10 H locs hr_9 hP hD hS => ?_)
        have hP : va_P D vwCl [((o 0), .inr (10, [.ref (o 1), .ref (o 2), .ref (o 3), .ref (o 4), .ref (o 5), .ref (o 6), .ref (o 7), .ref (o 8), .ref (o 9), .ref (o 10), .ref (o 11), .ref (o 12), .ref (o 13), .ref (o 14)])), ((o 13), .inl (k 4, 3, .inr (.inr (.inr (.inr (va_up (va_up (va_up (fun _ => none) 0 (some (o 36))) 1 (some (o 47))) 2 (some (o 58)))))))), ((o 36), .inr (2, [.int 0, .int 0, .int 0, .int 0, .int 0, .int 0, .int 0, .int 0, .int 0, .ref (o 37), .ref (o 38), .ref (o 39), .ref (o 40), .ref (o 41), .ref (o 42), .ref (o 43), .ref (o 44), .ref (o 45), .ref (o 46)])), ((o 37), .inl (k 0, 12, .inl (fun _ => 0))), ((o 38), .inl (k 0, 12, .inl (fun _ => 0))), ((o 39), .inl (k 0, 12, .inl (fun _ => 0))), ((o 40), .inl (k 0, 12, .inl (fun _ => 0))), ((o 41), .inl (k 0, 12, .inl (fun _ => 0))), ((o 42), .inl (k 0, 12, .inl (fun _ => 0))), ((o 43), .inl (k 0, 4, .inl (fun _ => 0))), ((o 44), .inl (k 0, 42, .inl (fun _ => 0))), ((o 45), .inl (k 0, 42, .inl (fun _ => 0))), ((o 46), .inl (k 0, 42, .inl (fun _ => 0))), ((o 58), .inr (2, [.int 0, .int 0, .int 0, .int 0, .int 0, .int 0, .int 0, .int 0, .int 0, .ref (o 59), .ref (o 60), .ref (o 61), .ref (o 62), .ref (o 63), .ref (o 64), .ref (o 65), .ref (o 66), .ref (o 67), .ref (o 68)])), ((o 59), .inl (k 0, 12, .inl (fun _ => 0))), ((o 60), .inl (k 0, 12, .inl (fun _ => 0))), ((o 61), .inl (k 0, 12, .inl (fun _ => 0))), ((o 62), .inl (k 0, 12, .inl (fun _ => 0))), ((o 63), .inl (k 0, 12, .inl (fun _ => 0))), ((o 64), .inl (k 0, 12, .inl (fun _ => 0))), ((o 65), .inl (k 0, 4, .inl (fun _ => 0))), ((o 66), .inl (k 0, 42, .inl (fun _ => 0))), ((o 67), .inl (k 0, 42, .inl (fun _ => 0))), ((o 68), .inl (k 0, 42, .inl (fun _ => 0))), ((o 14), .inl (k 3, 3, .inl (fun _ => 0))), ((o 47), .inr (2, [.int 0, .int 0, .int 0, .int 0, .int 0, .int 0, .int 0, .int 0, .int 0, .ref (o 48), .ref (o 49), .ref (o 50), .ref (o 51), .ref (o 52), .ref (o 53), .ref (o 54), .ref (o 55), .ref (o 56), .ref (o 57)])), ((o 48), .inl (k 0, 12, .inl (u_10 0))), ((o 49), .inl (k 0, 12, .inl (u_10 1))), ((o 50), .inl (k 0, 12, .inl (u_10 2))), ((o 51), .inl (k 0, 12, .inl (u_10 3))), ((o 52), .inl (k 0, 12, .inl (u_10 4))), ((o 53), .inl (k 0, 12, .inl (u_10 5))), ((o 54), .inl (k 0, 4, .inl (u_10 6))), ((o 55), .inl (k 0, 42, .inl (u_10 7))), ((o 56), .inl (k 0, 42, .inl (u_10 8))), ((o 57), .inl (k 0, 42, .inl (u_10 9))), ((o 3), .inr (2, [.int 0, .int 0, .int 0, .int 0, .int 0, .int 0, .int 0, .int 0, .int 0, .ref (o 26), .ref (o 27), .ref (o 28), .ref (o 29), .ref (o 30), .ref (o 31), .ref (o 32), .ref (o 33), .ref (o 34), .ref (o 35)])), ((o 26), .inl (k 0, 12, .inl (fun _ => 0))), ((o 27), .inl (k 0, 12, .inl (fun _ => 0))), ((o 28), .inl (k 0, 12, .inl (fun _ => 0))), ((o 29), .inl (k 0, 12, .inl (fun _ => 0))), ((o 30), .inl (k 0, 12, .inl (fun _ => 0))), ((o 31), .inl (k 0, 12, .inl (fun _ => 0))), ((o 32), .inl (k 0, 4, .inl (fun _ => 0))), ((o 33), .inl (k 0, 42, .inl (fun _ => 0))), ((o 34), .inl (k 0, 42, .inl (fun _ => 0))), ((o 35), .inl (k 0, 42, .inl (fun _ => 0)))] H := hP
        have hD : va_D A [((o 0), .inr (10, [.ref (o 1), .ref (o 2), .ref (o 3), .ref (o 4), .ref (o 5), .ref (o 6), .ref (o 7), .ref (o 8), .ref (o 9), .ref (o 10), .ref (o 11), .ref (o 12), .ref (o 13), .ref (o 14)])), ((o 13), .inl (k 4, 3, .inr (.inr (.inr (.inr (va_up (va_up (va_up (fun _ => none) 0 (some (o 36))) 1 (some (o 47))) 2 (some (o 58)))))))), ((o 36), .inr (2, [.int 0, .int 0, .int 0, .int 0, .int 0, .int 0, .int 0, .int 0, .int 0, .ref (o 37), .ref (o 38), .ref (o 39), .ref (o 40), .ref (o 41), .ref (o 42), .ref (o 43), .ref (o 44), .ref (o 45), .ref (o 46)])), ((o 37), .inl (k 0, 12, .inl (fun _ => 0))), ((o 38), .inl (k 0, 12, .inl (fun _ => 0))), ((o 39), .inl (k 0, 12, .inl (fun _ => 0))), ((o 40), .inl (k 0, 12, .inl (fun _ => 0))), ((o 41), .inl (k 0, 12, .inl (fun _ => 0))), ((o 42), .inl (k 0, 12, .inl (fun _ => 0))), ((o 43), .inl (k 0, 4, .inl (fun _ => 0))), ((o 44), .inl (k 0, 42, .inl (fun _ => 0))), ((o 45), .inl (k 0, 42, .inl (fun _ => 0))), ((o 46), .inl (k 0, 42, .inl (fun _ => 0))), ((o 58), .inr (2, [.int 0, .int 0, .int 0, .int 0, .int 0, .int 0, .int 0, .int 0, .int 0, .ref (o 59), .ref (o 60), .ref (o 61), .ref (o 62), .ref (o 63), .ref (o 64), .ref (o 65), .ref (o 66), .ref (o 67), .ref (o 68)])), ((o 59), .inl (k 0, 12, .inl (fun _ => 0))), ((o 60), .inl (k 0, 12, .inl (fun _ => 0))), ((o 61), .inl (k 0, 12, .inl (fun _ => 0))), ((o 62), .inl (k 0, 12, .inl (fun _ => 0))), ((o 63), .inl (k 0, 12, .inl (fun _ => 0))), ((o 64), .inl (k 0, 12, .inl (fun _ => 0))), ((o 65), .inl (k 0, 4, .inl (fun _ => 0))), ((o 66), .inl (k 0, 42, .inl (fun _ => 0))), ((o 67), .inl (k 0, 42, .inl (fun _ => 0))), ((o 68), .inl (k 0, 42, .inl (fun _ => 0))), ((o 14), .inl (k 3, 3, .inl (fun _ => 0))), ((o 47), .inr (2, [.int 0, .int 0, .int 0, .int 0, .int 0, .int 0, .int 0, .int 0, .int 0, .ref (o 48), .ref (o 49), .ref (o 50), .ref (o 51), .ref (o 52), .ref (o 53), .ref (o 54), .ref (o 55), .ref (o 56), .ref (o 57)])), ((o 48), .inl (k 0, 12, .inl (u_10 0))), ((o 49), .inl (k 0, 12, .inl (u_10 1))), ((o 50), .inl (k 0, 12, .inl (u_10 2))), ((o 51), .inl (k 0, 12, .inl (u_10 3))), ((o 52), .inl (k 0, 12, .inl (u_10 4))), ((o 53), .inl (k 0, 12, .inl (u_10 5))), ((o 54), .inl (k 0, 4, .inl (u_10 6))), ((o 55), .inl (k 0, 42, .inl (u_10 7))), ((o 56), .inl (k 0, 42, .inl (u_10 8))), ((o 57), .inl (k 0, 42, .inl (u_10 9))), ((o 3), .inr (2, [.int 0, .int 0, .int 0, .int 0, .int 0, .int 0, .int 0, .int 0, .int 0, .ref (o 26), .ref (o 27), .ref (o 28), .ref (o 29), .ref (o 30), .ref (o 31), .ref (o 32), .ref (o 33), .ref (o 34), .ref (o 35)])), ((o 26), .inl (k 0, 12, .inl (fun _ => 0))), ((o 27), .inl (k 0, 12, .inl (fun _ => 0))), ((o 28), .inl (k 0, 12, .inl (fun _ => 0))), ((o 29), .inl (k 0, 12, .inl (fun _ => 0))), ((o 30), .inl (k 0, 12, .inl (fun _ => 0))), ((o 31), .inl (k 0, 12, .inl (fun _ => 0))), ((o 32), .inl (k 0, 4, .inl (fun _ => 0))), ((o 33), .inl (k 0, 42, .inl (fun _ => 0))), ((o 34), .inl (k 0, 42, .inl (fun _ => 0))), ((o 35), .inl (k 0, 42, .inl (fun _ => 0)))] := hD
        refine lv_aload_n hx hb dX10_image_25 rfl (lv_at hl 0 rfl) ?_
        refine x_get S hK hP 0 rfl cfX10 13 lkX10_99 (by decide) rfl dX10_image_26 ?_
        refine lv_iload_n hx hb dX10_image_29 rfl (lv_at hl 1 rfl) ?_
        refine lv_iconst (v := 1) hx hb dX10_image_30 (by decide) ?_
        refine x_zast (ws' := fun f_11 => [((o 0), .inr (10, [.ref (o 1), .ref (o 2), .ref (o 3), .ref (o 4), .ref (o 5), .ref (o 6), .ref (o 7), .ref (o 8), .ref (o 9), .ref (o 10), .ref (o 11), .ref (o 12), .ref (o 13), .ref (o 14)])), ((o 13), .inl (k 4, 3, .inr (.inr (.inr (.inr (va_up (va_up (va_up (fun _ => none) 0 (some (o 36))) 1 (some (o 47))) 2 (some (o 58)))))))), ((o 36), .inr (2, [.int 0, .int 0, .int 0, .int 0, .int 0, .int 0, .int 0, .int 0, .int 0, .ref (o 37), .ref (o 38), .ref (o 39), .ref (o 40), .ref (o 41), .ref (o 42), .ref (o 43), .ref (o 44), .ref (o 45), .ref (o 46)])), ((o 37), .inl (k 0, 12, .inl (fun _ => 0))), ((o 38), .inl (k 0, 12, .inl (fun _ => 0))), ((o 39), .inl (k 0, 12, .inl (fun _ => 0))), ((o 40), .inl (k 0, 12, .inl (fun _ => 0))), ((o 41), .inl (k 0, 12, .inl (fun _ => 0))), ((o 42), .inl (k 0, 12, .inl (fun _ => 0))), ((o 43), .inl (k 0, 4, .inl (fun _ => 0))), ((o 44), .inl (k 0, 42, .inl (fun _ => 0))), ((o 45), .inl (k 0, 42, .inl (fun _ => 0))), ((o 46), .inl (k 0, 42, .inl (fun _ => 0))), ((o 58), .inr (2, [.int 0, .int 0, .int 0, .int 0, .int 0, .int 0, .int 0, .int 0, .int 0, .ref (o 59), .ref (o 60), .ref (o 61), .ref (o 62), .ref (o 63), .ref (o 64), .ref (o 65), .ref (o 66), .ref (o 67), .ref (o 68)])), ((o 59), .inl (k 0, 12, .inl (fun _ => 0))), ((o 60), .inl (k 0, 12, .inl (fun _ => 0))), ((o 61), .inl (k 0, 12, .inl (fun _ => 0))), ((o 62), .inl (k 0, 12, .inl (fun _ => 0))), ((o 63), .inl (k 0, 12, .inl (fun _ => 0))), ((o 64), .inl (k 0, 12, .inl (fun _ => 0))), ((o 65), .inl (k 0, 4, .inl (fun _ => 0))), ((o 66), .inl (k 0, 42, .inl (fun _ => 0))), ((o 67), .inl (k 0, 42, .inl (fun _ => 0))), ((o 68), .inl (k 0, 42, .inl (fun _ => 0))), ((o 14), .inl (k 3, 3, .inl f_11)), ((o 47), .inr (2, [.int 0, .int 0, .int 0, .int 0, .int 0, .int 0, .int 0, .int 0, .int 0, .ref (o 48), .ref (o 49), .ref (o 50), .ref (o 51), .ref (o 52), .ref (o 53), .ref (o 54), .ref (o 55), .ref (o 56), .ref (o 57)])), ((o 48), .inl (k 0, 12, .inl (u_10 0))), ((o 49), .inl (k 0, 12, .inl (u_10 1))), ((o 50), .inl (k 0, 12, .inl (u_10 2))), ((o 51), .inl (k 0, 12, .inl (u_10 3))), ((o 52), .inl (k 0, 12, .inl (u_10 4))), ((o 53), .inl (k 0, 12, .inl (u_10 5))), ((o 54), .inl (k 0, 4, .inl (u_10 6))), ((o 55), .inl (k 0, 42, .inl (u_10 7))), ((o 56), .inl (k 0, 42, .inl (u_10 8))), ((o 57), .inl (k 0, 42, .inl (u_10 9))), ((o 3), .inr (2, [.int 0, .int 0, .int 0, .int 0, .int 0, .int 0, .int 0, .int 0, .int 0, .ref (o 26), .ref (o 27), .ref (o 28), .ref (o 29), .ref (o 30), .ref (o 31), .ref (o 32), .ref (o 33), .ref (o 34), .ref (o 35)])), ((o 26), .inl (k 0, 12, .inl (fun _ => 0))), ((o 27), .inl (k 0, 12, .inl (fun _ => 0))), ((o 28), .inl (k 0, 12, .inl (fun _ => 0))), ((o 29), .inl (k 0, 12, .inl (fun _ => 0))), ((o 30), .inl (k 0, 12, .inl (fun _ => 0))), ((o 31), .inl (k 0, 12, .inl (fun _ => 0))), ((o 32), .inl (k 0, 4, .inl (fun _ => 0))), ((o 33), .inl (k 0, 42, .inl (fun _ => 0))), ((o 34), .inl (k 0, 42, .inl (fun _ => 0))), ((o 35), .inl (k 0, 42, .inl (fun _ => 0)))]) S hK hP hD hS 24 rfl (vp_lit (by decide)) (fun _ => rfl) dX10_image_31 (fun f_11 H locs ef_11 hP hD hS => ?_)
        refine lv_iconst (v := 0) hx hb dX10_image_32 (by decide) ?_
        exact x_reti S hr hlk hQ hS () (lfctX10_image_2 p0 c_1 c_2 e_4) (x_B P_nil D_nil) dX10_image_33
      · skip
        have hl : lv_has ls 2 [(0, .ref (o 0)), (1, .int 2)] := by rw [e_5] at hl; exact hl
        refine lv_aload_n hx hb dX10_image_12 rfl (lv_at hl 0 rfl) ?_
        refine x_get S hK hP 0 rfl cfX10 12 lkX10_95 (by decide) rfl dX10_image_13 ?_
        refine lv_iload_n hx hb dX10_image_16 rfl (lv_at hl 1 rfl) ?_
        refine x_qald (v := (o 58)) S hK hP 12 rfl (vp_lit (by decide)) rfl dX10_image_17 ?_
        refine lv_aload_n hx hb dX10_image_18 rfl (lv_at hl 0 rfl) ?_
        refine x_get S hK hP 0 rfl cfX10 2 lkX10_23 (by decide) rfl dX10_image_19 ?_
        refine x_muVv (wr := [((o 0), .inr (10, [.ref (o 1), .ref (o 2), .ref (o 3), .ref (o 4), .ref (o 5), .ref (o 6), .ref (o 7), .ref (o 8), .ref (o 9), .ref (o 10), .ref (o 11), .ref (o 12), .ref (o 13), .ref (o 14)])), ((o 13), .inl (k 4, 3, .inr (.inr (.inr (.inr (va_up (va_up (va_up (fun _ => none) 0 (some (o 36))) 1 (some (o 47))) 2 (some (o 58)))))))), ((o 36), .inr (2, [.int 0, .int 0, .int 0, .int 0, .int 0, .int 0, .int 0, .int 0, .int 0, .ref (o 37), .ref (o 38), .ref (o 39), .ref (o 40), .ref (o 41), .ref (o 42), .ref (o 43), .ref (o 44), .ref (o 45), .ref (o 46)])), ((o 37), .inl (k 0, 12, .inl (fun _ => 0))), ((o 38), .inl (k 0, 12, .inl (fun _ => 0))), ((o 39), .inl (k 0, 12, .inl (fun _ => 0))), ((o 40), .inl (k 0, 12, .inl (fun _ => 0))), ((o 41), .inl (k 0, 12, .inl (fun _ => 0))), ((o 42), .inl (k 0, 12, .inl (fun _ => 0))), ((o 43), .inl (k 0, 4, .inl (fun _ => 0))), ((o 44), .inl (k 0, 42, .inl (fun _ => 0))), ((o 45), .inl (k 0, 42, .inl (fun _ => 0))), ((o 46), .inl (k 0, 42, .inl (fun _ => 0))), ((o 47), .inr (2, [.int 0, .int 0, .int 0, .int 0, .int 0, .int 0, .int 0, .int 0, .int 0, .ref (o 48), .ref (o 49), .ref (o 50), .ref (o 51), .ref (o 52), .ref (o 53), .ref (o 54), .ref (o 55), .ref (o 56), .ref (o 57)])), ((o 48), .inl (k 0, 12, .inl (fun _ => 0))), ((o 49), .inl (k 0, 12, .inl (fun _ => 0))), ((o 50), .inl (k 0, 12, .inl (fun _ => 0))), ((o 51), .inl (k 0, 12, .inl (fun _ => 0))), ((o 52), .inl (k 0, 12, .inl (fun _ => 0))), ((o 53), .inl (k 0, 12, .inl (fun _ => 0))), ((o 54), .inl (k 0, 4, .inl (fun _ => 0))), ((o 55), .inl (k 0, 42, .inl (fun _ => 0))), ((o 56), .inl (k 0, 42, .inl (fun _ => 0))), ((o 57), .inl (k 0, 42, .inl (fun _ => 0))), ((o 14), .inl (k 3, 3, .inl (fun _ => 0)))]) (As := [.ref (o 3)]) S hK hP hD hS hA hl mwX2_copy lkX10_122 (ctX2_copy l D k (fun i => ([(o 58), (o 59), (o 60), (o 61), (o 62), (o 63), (o 64), (o 65), (o 66), (o 67), (o 68)] : List Nat).getD i 0) (fun i => ([(o 3), (o 26), (o 27), (o 28), (o 29), (o 30), (o 31), (o 32), (o 33), (o 34), (o 35)] : List Nat).getD i 0) 0 0 0 0 0 0 0 0 0 0 0 0 0 0 0 0 0 0 (fun _ => 0) (fun _ => 0) (fun _ => 0) (fun _ => 0) (fun _ => 0) (fun _ => 0) (fun _ => 0) (fun _ => 0) (fun _ => 0) (fun _ => 0) (fun _ => 0) (fun _ => 0) (fun _ => 0) (fun _ => 0) (fun _ => 0) (fun _ => 0) (fun _ => 0) (fun _ => 0) (fun _ => 0) (fun _ => 0) ) [35, 36, 37, 38, 39, 40, 41, 42, 43, 44, 45, 1, 2, 3, 4, 5, 6, 7, 8, 9, 10, 11] [0, 12, 13, 14, 15, 16, 17, 18, 19, 20, 21, 22, 23, 24, 25, 26, 27, 28, 29, 30, 31, 32, 33, 34, 46] rfl rfl (by decide) (by decide) (by decide) rfl rfl rfl rfl rfl ⟨Nat.le_of_ble_eq_true rfl, Nat.le_of_ble_eq_true rfl, Nat.le_of_ble_eq_true rfl⟩ dX10_image_22 ⟨Nat.le_of_ble_eq_true rfl, Nat.le_of_ble_eq_true rfl⟩ (fun u_13 H locs hr_12 hP hD hS => ?_)
        have hP : va_P D vwCl [((o 0), .inr (10, [.ref (o 1), .ref (o 2), .ref (o 3), .ref (o 4), .ref (o 5), .ref (o 6), .ref (o 7), .ref (o 8), .ref (o 9), .ref (o 10), .ref (o 11), .ref (o 12), .ref (o 13), .ref (o 14)])), ((o 13), .inl (k 4, 3, .inr (.inr (.inr (.inr (va_up (va_up (va_up (fun _ => none) 0 (some (o 36))) 1 (some (o 47))) 2 (some (o 58)))))))), ((o 36), .inr (2, [.int 0, .int 0, .int 0, .int 0, .int 0, .int 0, .int 0, .int 0, .int 0, .ref (o 37), .ref (o 38), .ref (o 39), .ref (o 40), .ref (o 41), .ref (o 42), .ref (o 43), .ref (o 44), .ref (o 45), .ref (o 46)])), ((o 37), .inl (k 0, 12, .inl (fun _ => 0))), ((o 38), .inl (k 0, 12, .inl (fun _ => 0))), ((o 39), .inl (k 0, 12, .inl (fun _ => 0))), ((o 40), .inl (k 0, 12, .inl (fun _ => 0))), ((o 41), .inl (k 0, 12, .inl (fun _ => 0))), ((o 42), .inl (k 0, 12, .inl (fun _ => 0))), ((o 43), .inl (k 0, 4, .inl (fun _ => 0))), ((o 44), .inl (k 0, 42, .inl (fun _ => 0))), ((o 45), .inl (k 0, 42, .inl (fun _ => 0))), ((o 46), .inl (k 0, 42, .inl (fun _ => 0))), ((o 47), .inr (2, [.int 0, .int 0, .int 0, .int 0, .int 0, .int 0, .int 0, .int 0, .int 0, .ref (o 48), .ref (o 49), .ref (o 50), .ref (o 51), .ref (o 52), .ref (o 53), .ref (o 54), .ref (o 55), .ref (o 56), .ref (o 57)])), ((o 48), .inl (k 0, 12, .inl (fun _ => 0))), ((o 49), .inl (k 0, 12, .inl (fun _ => 0))), ((o 50), .inl (k 0, 12, .inl (fun _ => 0))), ((o 51), .inl (k 0, 12, .inl (fun _ => 0))), ((o 52), .inl (k 0, 12, .inl (fun _ => 0))), ((o 53), .inl (k 0, 12, .inl (fun _ => 0))), ((o 54), .inl (k 0, 4, .inl (fun _ => 0))), ((o 55), .inl (k 0, 42, .inl (fun _ => 0))), ((o 56), .inl (k 0, 42, .inl (fun _ => 0))), ((o 57), .inl (k 0, 42, .inl (fun _ => 0))), ((o 14), .inl (k 3, 3, .inl (fun _ => 0))), ((o 58), .inr (2, [.int 0, .int 0, .int 0, .int 0, .int 0, .int 0, .int 0, .int 0, .int 0, .ref (o 59), .ref (o 60), .ref (o 61), .ref (o 62), .ref (o 63), .ref (o 64), .ref (o 65), .ref (o 66), .ref (o 67), .ref (o 68)])), ((o 59), .inl (k 0, 12, .inl (u_13 0))), ((o 60), .inl (k 0, 12, .inl (u_13 1))), ((o 61), .inl (k 0, 12, .inl (u_13 2))), ((o 62), .inl (k 0, 12, .inl (u_13 3))), ((o 63), .inl (k 0, 12, .inl (u_13 4))), ((o 64), .inl (k 0, 12, .inl (u_13 5))), ((o 65), .inl (k 0, 4, .inl (u_13 6))), ((o 66), .inl (k 0, 42, .inl (u_13 7))), ((o 67), .inl (k 0, 42, .inl (u_13 8))), ((o 68), .inl (k 0, 42, .inl (u_13 9))), ((o 3), .inr (2, [.int 0, .int 0, .int 0, .int 0, .int 0, .int 0, .int 0, .int 0, .int 0, .ref (o 26), .ref (o 27), .ref (o 28), .ref (o 29), .ref (o 30), .ref (o 31), .ref (o 32), .ref (o 33), .ref (o 34), .ref (o 35)])), ((o 26), .inl (k 0, 12, .inl (fun _ => 0))), ((o 27), .inl (k 0, 12, .inl (fun _ => 0))), ((o 28), .inl (k 0, 12, .inl (fun _ => 0))), ((o 29), .inl (k 0, 12, .inl (fun _ => 0))), ((o 30), .inl (k 0, 12, .inl (fun _ => 0))), ((o 31), .inl (k 0, 12, .inl (fun _ => 0))), ((o 32), .inl (k 0, 4, .inl (fun _ => 0))), ((o 33), .inl (k 0, 42, .inl (fun _ => 0))), ((o 34), .inl (k 0, 42, .inl (fun _ => 0))), ((o 35), .inl (k 0, 42, .inl (fun _ => 0)))] H := hP
        have hD : va_D A [((o 0), .inr (10, [.ref (o 1), .ref (o 2), .ref (o 3), .ref (o 4), .ref (o 5), .ref (o 6), .ref (o 7), .ref (o 8), .ref (o 9), .ref (o 10), .ref (o 11), .ref (o 12), .ref (o 13), .ref (o 14)])), ((o 13), .inl (k 4, 3, .inr (.inr (.inr (.inr (va_up (va_up (va_up (fun _ => none) 0 (some (o 36))) 1 (some (o 47))) 2 (some (o 58)))))))), ((o 36), .inr (2, [.int 0, .int 0, .int 0, .int 0, .int 0, .int 0, .int 0, .int 0, .int 0, .ref (o 37), .ref (o 38), .ref (o 39), .ref (o 40), .ref (o 41), .ref (o 42), .ref (o 43), .ref (o 44), .ref (o 45), .ref (o 46)])), ((o 37), .inl (k 0, 12, .inl (fun _ => 0))), ((o 38), .inl (k 0, 12, .inl (fun _ => 0))), ((o 39), .inl (k 0, 12, .inl (fun _ => 0))), ((o 40), .inl (k 0, 12, .inl (fun _ => 0))), ((o 41), .inl (k 0, 12, .inl (fun _ => 0))), ((o 42), .inl (k 0, 12, .inl (fun _ => 0))), ((o 43), .inl (k 0, 4, .inl (fun _ => 0))), ((o 44), .inl (k 0, 42, .inl (fun _ => 0))), ((o 45), .inl (k 0, 42, .inl (fun _ => 0))), ((o 46), .inl (k 0, 42, .inl (fun _ => 0))), ((o 47), .inr (2, [.int 0, .int 0, .int 0, .int 0, .int 0, .int 0, .int 0, .int 0, .int 0, .ref (o 48), .ref (o 49), .ref (o 50), .ref (o 51), .ref (o 52), .ref (o 53), .ref (o 54), .ref (o 55), .ref (o 56), .ref (o 57)])), ((o 48), .inl (k 0, 12, .inl (fun _ => 0))), ((o 49), .inl (k 0, 12, .inl (fun _ => 0))), ((o 50), .inl (k 0, 12, .inl (fun _ => 0))), ((o 51), .inl (k 0, 12, .inl (fun _ => 0))), ((o 52), .inl (k 0, 12, .inl (fun _ => 0))), ((o 53), .inl (k 0, 12, .inl (fun _ => 0))), ((o 54), .inl (k 0, 4, .inl (fun _ => 0))), ((o 55), .inl (k 0, 42, .inl (fun _ => 0))), ((o 56), .inl (k 0, 42, .inl (fun _ => 0))), ((o 57), .inl (k 0, 42, .inl (fun _ => 0))), ((o 14), .inl (k 3, 3, .inl (fun _ => 0))), ((o 58), .inr (2, [.int 0, .int 0, .int 0, .int 0, .int 0, .int 0, .int 0, .int 0, .int 0, .ref (o 59), .ref (o 60), .ref (o 61), .ref (o 62), .ref (o 63), .ref (o 64), .ref (o 65), .ref (o 66), .ref (o 67), .ref (o 68)])), ((o 59), .inl (k 0, 12, .inl (u_13 0))), ((o 60), .inl (k 0, 12, .inl (u_13 1))), ((o 61), .inl (k 0, 12, .inl (u_13 2))), ((o 62), .inl (k 0, 12, .inl (u_13 3))), ((o 63), .inl (k 0, 12, .inl (u_13 4))), ((o 64), .inl (k 0, 12, .inl (u_13 5))), ((o 65), .inl (k 0, 4, .inl (u_13 6))), ((o 66), .inl (k 0, 42, .inl (u_13 7))), ((o 67), .inl (k 0, 42, .inl (u_13 8))), ((o 68), .inl (k 0, 42, .inl (u_13 9))), ((o 3), .inr (2, [.int 0, .int 0, .int 0, .int 0, .int 0, .int 0, .int 0, .int 0, .int 0, .ref (o 26), .ref (o 27), .ref (o 28), .ref (o 29), .ref (o 30), .ref (o 31), .ref (o 32), .ref (o 33), .ref (o 34), .ref (o 35)])), ((o 26), .inl (k 0, 12, .inl (fun _ => 0))), ((o 27), .inl (k 0, 12, .inl (fun _ => 0))), ((o 28), .inl (k 0, 12, .inl (fun _ => 0))), ((o 29), .inl (k 0, 12, .inl (fun _ => 0))), ((o 30), .inl (k 0, 12, .inl (fun _ => 0))), ((o 31), .inl (k 0, 12, .inl (fun _ => 0))), ((o 32), .inl (k 0, 4, .inl (fun _ => 0))), ((o 33), .inl (k 0, 42, .inl (fun _ => 0))), ((o 34), .inl (k 0, 42, .inl (fun _ => 0))), ((o 35), .inl (k 0, 42, .inl (fun _ => 0)))] := hD
        refine lv_aload_n hx hb dX10_image_25 rfl (lv_at hl 0 rfl) ?_
        refine x_get S hK hP 0 rfl cfX10 13 lkX10_99 (by decide) rfl dX10_image_26 ?_
        refine lv_iload_n hx hb dX10_image_29 rfl (lv_at hl 1 rfl) ?_
        refine lv_iconst (v := 1) hx hb dX10_image_30 (by decide) ?_
        refine x_zast (ws' := fun f_14 => [((o 0), .inr (10, [.ref (o 1), .ref (o 2), .ref (o 3), .ref (o 4), .ref (o 5), .ref (o 6), .ref (o 7), .ref (o 8), .ref (o 9), .ref (o 10), .ref (o 11), .ref (o 12), .ref (o 13), .ref (o 14)])), ((o 13), .inl (k 4, 3, .inr (.inr (.inr (.inr (va_up (va_up (va_up (fun _ => none) 0 (some (o 36))) 1 (some (o 47))) 2 (some (o 58)))))))), ((o 36), .inr (2, [.int 0, .int 0, .int 0, .int 0, .int 0, .int 0, .int 0, .int 0, .int 0, .ref (o 37), .ref (o 38), .ref (o 39), .ref (o 40), .ref (o 41), .ref (o 42), .ref (o 43), .ref (o 44), .ref (o 45), .ref (o 46)])), ((o 37), .inl (k 0, 12, .inl (fun _ => 0))), ((o 38), .inl (k 0, 12, .inl (fun _ => 0))), ((o 39), .inl (k 0, 12, .inl (fun _ => 0))), ((o 40), .inl (k 0, 12, .inl (fun _ => 0))), ((o 41), .inl (k 0, 12, .inl (fun _ => 0))), ((o 42), .inl (k 0, 12, .inl (fun _ => 0))), ((o 43), .inl (k 0, 4, .inl (fun _ => 0))), ((o 44), .inl (k 0, 42, .inl (fun _ => 0))), ((o 45), .inl (k 0, 42, .inl (fun _ => 0))), ((o 46), .inl (k 0, 42, .inl (fun _ => 0))), ((o 47), .inr (2, [.int 0, .int 0, .int 0, .int 0, .int 0, .int 0, .int 0, .int 0, .int 0, .ref (o 48), .ref (o 49), .ref (o 50), .ref (o 51), .ref (o 52), .ref (o 53), .ref (o 54), .ref (o 55), .ref (o 56), .ref (o 57)])), ((o 48), .inl (k 0, 12, .inl (fun _ => 0))), ((o 49), .inl (k 0, 12, .inl (fun _ => 0))), ((o 50), .inl (k 0, 12, .inl (fun _ => 0))), ((o 51), .inl (k 0, 12, .inl (fun _ => 0))), ((o 52), .inl (k 0, 12, .inl (fun _ => 0))), ((o 53), .inl (k 0, 12, .inl (fun _ => 0))), ((o 54), .inl (k 0, 4, .inl (fun _ => 0))), ((o 55), .inl (k 0, 42, .inl (fun _ => 0))), ((o 56), .inl (k 0, 42, .inl (fun _ => 0))), ((o 57), .inl (k 0, 42, .inl (fun _ => 0))), ((o 14), .inl (k 3, 3, .inl f_14)), ((o 58), .inr (2, [.int 0, .int 0, .int 0, .int 0, .int 0, .int 0, .int 0, .int 0, .int 0, .ref (o 59), .ref (o 60), .ref (o 61), .ref (o 62), .ref (o 63), .ref (o 64), .ref (o 65), .ref (o 66), .ref (o 67), .ref (o 68)])), ((o 59), .inl (k 0, 12, .inl (u_13 0))), ((o 60), .inl (k 0, 12, .inl (u_13 1))), ((o 61), .inl (k 0, 12, .inl (u_13 2))), ((o 62), .inl (k 0, 12, .inl (u_13 3))), ((o 63), .inl (k 0, 12, .inl (u_13 4))), ((o 64), .inl (k 0, 12, .inl (u_13 5))), ((o 65), .inl (k 0, 4, .inl (u_13 6))), ((o 66), .inl (k 0, 42, .inl (u_13 7))), ((o 67), .inl (k 0, 42, .inl (u_13 8))), ((o 68), .inl (k 0, 42, .inl (u_13 9))), ((o 3), .inr (2, [.int 0, .int 0, .int 0, .int 0, .int 0, .int 0, .int 0, .int 0, .int 0, .ref (o 26), .ref (o 27), .ref (o 28), .ref (o 29), .ref (o 30), .ref (o 31), .ref (o 32), .ref (o 33), .ref (o 34), .ref (o 35)])), ((o 26), .inl (k 0, 12, .inl (fun _ => 0))), ((o 27), .inl (k 0, 12, .inl (fun _ => 0))), ((o 28), .inl (k 0, 12, .inl (fun _ => 0))), ((o 29), .inl (k 0, 12, .inl (fun _ => 0))), ((o 30), .inl (k 0, 12, .inl (fun _ => 0))), ((o 31), .inl (k 0, 12, .inl (fun _ => 0))), ((o 32), .inl (k 0, 4, .inl (fun _ => 0))), ((o 33), .inl (k 0, 42, .inl (fun _ => 0))), ((o 34), .inl (k 0, 42, .inl (fun _ => 0))), ((o 35), .inl (k 0, 42, .inl (fun _ => 0)))]) S hK hP hD hS 24 rfl (vp_lit (by decide)) (fun _ => rfl) dX10_image_31 (fun f_14 H locs ef_14 hP hD hS => ?_)
        refine lv_iconst (v := 0) hx hb dX10_image_32 (by decide) ?_
        exact x_reti S hr hlk hQ hS () (lfctX10_image_3 p0 c_1 c_2 e_5) (x_B P_nil D_nil) dX10_image_33
    · skip
      refine lv_bipush (v := (-2)) hx hb dX10_image_9 (by decide) ?_
      exact x_reti S hr hlk hQ hS () (lfctX10_image_4 p0 c_1 c_2) (x_B P_nil D_nil) dX10_image_11

set_option maxHeartbeats 4000000 in
set_option maxRecDepth 100000 in
theorem ctX2_clear (l : Launch) (D : va_G) (k : Nat → ClassId) (o : Nat → Nat)  : MU l yX2_clear cX2_clear 1 none 0 D k [.ref (o 2)] [((o 2), .inr (2, [.int 0, .int 0, .int 0, .int 0, .int 0, .int 0, .int 0, .int 0, .int 0, .ref (o 16), .ref (o 17), .ref (o 18), .ref (o 19), .ref (o 20), .ref (o 21), .ref (o 22), .ref (o 23), .ref (o 24), .ref (o 25)]))] 0 0 (Uv D (fun _ : Unit => True) (fun u : Unit => [((o 2), .inr (2, [.int 0, .int 0, .int 0, .int 0, .int 0, .int 0, .int 0, .int 0, .int 0, .ref (o 16), .ref (o 17), .ref (o 18), .ref (o 19), .ref (o 20), .ref (o 21), .ref (o 22), .ref (o 23), .ref (o 24), .ref (o 25)]))])) := by
  refine MU.of (by decide) (Nat.le_of_ble_eq_true rfl) ?_
  intro p e s m below meth c ls A args Q S hr hlk hnm hQ hK hP hD hA hS hl
  have hx := S.1
  have hb := S.2.1
  have hl : lv_has ls 1 [(0, .ref (o 2))] := hl
  refine lv_aload_n hx hb dX2_clear_0 rfl (lv_at hl 0 rfl) ?_
  refine lv_iconst (v := 0) hx hb dX2_clear_1 (by decide) ?_
  refine x_put (ws' := [((o 2), .inr (2, [.int 0, .int 0, .int 0, .int 0, .int 0, .int 0, .int 0, .int 0, .int 0, .ref (o 16), .ref (o 17), .ref (o 18), .ref (o 19), .ref (o 20), .ref (o 21), .ref (o 22), .ref (o 23), .ref (o 24), .ref (o 25)]))]) S hK hP hD hS 0 rfl cfX2 0 lkX2_42 (by decide) rfl rfl rfl (Nat.le_of_ble_eq_true rfl) rfl dX2_clear_2 (fun H locs hP hD hS => ?_)
  refine lv_aload_n hx hb dX2_clear_5 rfl (lv_at hl 0 rfl) ?_
  refine lv_iconst (v := 0) hx hb dX2_clear_6 (by decide) ?_
  refine x_put (ws' := [((o 2), .inr (2, [.int 0, .int 0, .int 0, .int 0, .int 0, .int 0, .int 0, .int 0, .int 0, .ref (o 16), .ref (o 17), .ref (o 18), .ref (o 19), .ref (o 20), .ref (o 21), .ref (o 22), .ref (o 23), .ref (o 24), .ref (o 25)]))]) S hK hP hD hS 0 rfl cfX2 1 lkX2_46 (by decide) rfl rfl rfl (Nat.le_of_ble_eq_true rfl) rfl dX2_clear_7 (fun H locs hP hD hS => ?_)
  refine lv_aload_n hx hb dX2_clear_10 rfl (lv_at hl 0 rfl) ?_
  refine lv_iconst (v := 0) hx hb dX2_clear_11 (by decide) ?_
  refine x_put (ws' := [((o 2), .inr (2, [.int 0, .int 0, .int 0, .int 0, .int 0, .int 0, .int 0, .int 0, .int 0, .ref (o 16), .ref (o 17), .ref (o 18), .ref (o 19), .ref (o 20), .ref (o 21), .ref (o 22), .ref (o 23), .ref (o 24), .ref (o 25)]))]) S hK hP hD hS 0 rfl cfX2 2 lkX2_49 (by decide) rfl rfl rfl (Nat.le_of_ble_eq_true rfl) rfl dX2_clear_12 (fun H locs hP hD hS => ?_)
  refine lv_aload_n hx hb dX2_clear_15 rfl (lv_at hl 0 rfl) ?_
  refine lv_iconst (v := 0) hx hb dX2_clear_16 (by decide) ?_
  refine x_put (ws' := [((o 2), .inr (2, [.int 0, .int 0, .int 0, .int 0, .int 0, .int 0, .int 0, .int 0, .int 0, .ref (o 16), .ref (o 17), .ref (o 18), .ref (o 19), .ref (o 20), .ref (o 21), .ref (o 22), .ref (o 23), .ref (o 24), .ref (o 25)]))]) S hK hP hD hS 0 rfl cfX2 3 lkX2_52 (by decide) rfl rfl rfl (Nat.le_of_ble_eq_true rfl) rfl dX2_clear_17 (fun H locs hP hD hS => ?_)
  refine lv_aload_n hx hb dX2_clear_20 rfl (lv_at hl 0 rfl) ?_
  refine lv_iconst (v := 0) hx hb dX2_clear_21 (by decide) ?_
  refine x_put (ws' := [((o 2), .inr (2, [.int 0, .int 0, .int 0, .int 0, .int 0, .int 0, .int 0, .int 0, .int 0, .ref (o 16), .ref (o 17), .ref (o 18), .ref (o 19), .ref (o 20), .ref (o 21), .ref (o 22), .ref (o 23), .ref (o 24), .ref (o 25)]))]) S hK hP hD hS 0 rfl cfX2 4 lkX2_55 (by decide) rfl rfl rfl (Nat.le_of_ble_eq_true rfl) rfl dX2_clear_22 (fun H locs hP hD hS => ?_)
  refine lv_aload_n hx hb dX2_clear_25 rfl (lv_at hl 0 rfl) ?_
  refine lv_iconst (v := 0) hx hb dX2_clear_26 (by decide) ?_
  refine x_put (ws' := [((o 2), .inr (2, [.int 0, .int 0, .int 0, .int 0, .int 0, .int 0, .int 0, .int 0, .int 0, .ref (o 16), .ref (o 17), .ref (o 18), .ref (o 19), .ref (o 20), .ref (o 21), .ref (o 22), .ref (o 23), .ref (o 24), .ref (o 25)]))]) S hK hP hD hS 0 rfl cfX2 5 lkX2_58 (by decide) rfl rfl rfl (Nat.le_of_ble_eq_true rfl) rfl dX2_clear_27 (fun H locs hP hD hS => ?_)
  refine lv_aload_n hx hb dX2_clear_30 rfl (lv_at hl 0 rfl) ?_
  refine lv_iconst (v := 0) hx hb dX2_clear_31 (by decide) ?_
  refine x_put (ws' := [((o 2), .inr (2, [.int 0, .int 0, .int 0, .int 0, .int 0, .int 0, .int 0, .int 0, .int 0, .ref (o 16), .ref (o 17), .ref (o 18), .ref (o 19), .ref (o 20), .ref (o 21), .ref (o 22), .ref (o 23), .ref (o 24), .ref (o 25)]))]) S hK hP hD hS 0 rfl cfX2 6 lkX2_61 (by decide) rfl rfl rfl (Nat.le_of_ble_eq_true rfl) rfl dX2_clear_32 (fun H locs hP hD hS => ?_)
  refine lv_aload_n hx hb dX2_clear_35 rfl (lv_at hl 0 rfl) ?_
  refine lv_iconst (v := 0) hx hb dX2_clear_36 (by decide) ?_
  refine x_put (ws' := [((o 2), .inr (2, [.int 0, .int 0, .int 0, .int 0, .int 0, .int 0, .int 0, .int 0, .int 0, .ref (o 16), .ref (o 17), .ref (o 18), .ref (o 19), .ref (o 20), .ref (o 21), .ref (o 22), .ref (o 23), .ref (o 24), .ref (o 25)]))]) S hK hP hD hS 0 rfl cfX2 7 lkX2_64 (by decide) rfl rfl rfl (Nat.le_of_ble_eq_true rfl) rfl dX2_clear_37 (fun H locs hP hD hS => ?_)
  refine lv_aload_n hx hb dX2_clear_40 rfl (lv_at hl 0 rfl) ?_
  refine lv_iconst (v := 0) hx hb dX2_clear_41 (by decide) ?_
  refine x_put (ws' := [((o 2), .inr (2, [.int 0, .int 0, .int 0, .int 0, .int 0, .int 0, .int 0, .int 0, .int 0, .ref (o 16), .ref (o 17), .ref (o 18), .ref (o 19), .ref (o 20), .ref (o 21), .ref (o 22), .ref (o 23), .ref (o 24), .ref (o 25)]))]) S hK hP hD hS 0 rfl cfX2 8 lkX2_67 (by decide) rfl rfl rfl (Nat.le_of_ble_eq_true rfl) rfl dX2_clear_42 (fun H locs hP hD hS => ?_)
  exact x_retv S hr hlk hQ hS () trivial (x_B (hP.sub [0] rfl) (hD.sub [0] (by decide) rfl)) dX2_clear_45

set_option maxHeartbeats 4000000 in
set_option maxRecDepth 100000 in
theorem ctX2_findNeighbours (l : Launch) (D : va_G) (k : Nat → ClassId) (o : Nat → Nat)  : MU l yX2_findNeighbours cX2_findNeighbours 5 none 0 D k [.ref (o 2)] [((o 2), .inr (2, [.int 0, .int 0, .int 0, .int 0, .int 0, .int 0, .int 0, .int 0, .int 0, .ref (o 16), .ref (o 17), .ref (o 18), .ref (o 19), .ref (o 20), .ref (o 21), .ref (o 22), .ref (o 23), .ref (o 24), .ref (o 25)]))] 0 0 (Uv D (fun _ : Unit => True) (fun u : Unit => [((o 2), .inr (2, [.int 0, .int 0, .int 0, .int 0, .int 0, .int 0, .int 0, .int 0, .int 0, .ref (o 16), .ref (o 17), .ref (o 18), .ref (o 19), .ref (o 20), .ref (o 21), .ref (o 22), .ref (o 23), .ref (o 24), .ref (o 25)]))])) := by
  refine MU.of (by decide) (Nat.le_of_ble_eq_true rfl) ?_
  intro p e s m below meth c ls A args Q S hr hlk hnm hQ hK hP hD hA hS hl
  have hx := S.1
  have hb := S.2.1
  have hl : lv_has ls 5 [(0, .ref (o 2))] := hl
  refine lv_iconst (v := 0) hx hb dX2_findNeighbours_0 (by decide) ?_
  refine lv_istore_n (lv' := [(1, .int 0), (0, .ref (o 2))]) hx hb dX2_findNeighbours_1 rfl hl (by decide) rfl (fun ls hl => ?_)
  refine lv_iload_n hx hb dX2_findNeighbours_2 rfl (lv_at hl 0 rfl) ?_
  refine lv_aload_n hx hb dX2_findNeighbours_3 rfl (lv_at hl 1 rfl) ?_
  refine x_get S hK hP 0 rfl cfX2 5 lkX2_58 (by decide) rfl dX2_findNeighbours_4 ?_
  refine lv_icmp_ge (tgt := 123) hx hb dX2_findNeighbours_7 (by decide) (fun c_1 => ?_) (fun c_1 => absurd (by decide) c_1)
  exact x_retv S hr hlk hQ hS () trivial (x_B (hP.sub [0] rfl) (hD.sub [0] (by decide) rfl)) dX2_findNeighbours_123

set_option maxHeartbeats 4000000 in
set_option maxRecDepth 100000 in
theorem ctX4_advance (l : Launch) (D : va_G) (k : Nat → ClassId) (o : Nat → Nat)  : MU l yX4_advance cX4_advance 2 none 0 D k [.ref (o 1)] [((o 1), .inr (4, [.ref (o 15), .int 0, .int 0, .int (-1), .int 0, .int 0, .int 0, .int 0, .int 0]))] 0 0 (Uv D (fun _ : Unit => True) (fun u : Unit => [((o 1), .inr (4, [.ref (o 15), .int 0, .int 0, .int (-1), .int 0, .int 0, .int 0, .int 0, .int 0]))])) := by
  refine MU.of (by decide) (Nat.le_of_ble_eq_true rfl) ?_
  intro p e s m below meth c ls A args Q S hr hlk hnm hQ hK hP hD hA hS hl
  have hx := S.1
  have hb := S.2.1
  have hl : lv_has ls 2 [(0, .ref (o 1))] := hl
  refine lv_aload_n hx hb dX4_advance_0 rfl (lv_at hl 0 rfl) ?_
  refine lv_aload_n hx hb dX4_advance_1 rfl (lv_at hl 0 rfl) ?_
  refine x_get S hK hP 0 rfl cfX4 6 lkX4_30 (by decide) rfl dX4_advance_2 ?_
  refine x_put (ws' := [((o 1), .inr (4, [.ref (o 15), .int 0, .int 0, .int (-1), .int 0, .int 0, .int 0, .int 0, .int 0]))]) S hK hP hD hS 0 rfl cfX4 5 lkX4_148 (by decide) rfl rfl rfl (Nat.le_of_ble_eq_true rfl) rfl dX4_advance_5 (fun H locs hP hD hS => ?_)
  refine lv_aload_n hx hb dX4_advance_8 rfl (lv_at hl 0 rfl) ?_
  refine x_get S hK hP 0 rfl cfX4 5 lkX4_148 (by decide) rfl dX4_advance_9 ?_
  refine lv_aload_n hx hb dX4_advance_12 rfl (lv_at hl 0 rfl) ?_
  refine x_get S hK hP 0 rfl cfX4 1 lkX4_19 (by decide) rfl dX4_advance_13 ?_
  refine lv_icmp_ge (tgt := 48) hx hb dX4_advance_16 (by decide) (fun c_1 => ?_) (fun c_1 => absurd (by decide) c_1)
  refine lv_aload_n hx hb dX4_advance_48 rfl (lv_at hl 0 rfl) ?_
  refine lv_aload_n hx hb dX4_advance_49 rfl (lv_at hl 0 rfl) ?_
  refine x_get S hK hP 0 rfl cfX4 5 lkX4_148 (by decide) rfl dX4_advance_50 ?_
  refine lv_aload_n hx hb dX4_advance_53 rfl (lv_at hl 0 rfl) ?_
  refine x_get S hK hP 0 rfl cfX4 1 lkX4_19 (by decide) rfl dX4_advance_54 ?_
  refine lv_icmp_ge (tgt := 75) hx hb dX4_advance_57 (by decide) (fun c_2 => ?_) (fun c_2 => absurd (by decide) c_2)
  refine lv_iconst (v := 0) hx hb dX4_advance_75 (by decide) ?_
  refine x_put (ws' := [((o 1), .inr (4, [.ref (o 15), .int 0, .int 0, .int (-1), .int 0, .int 0, .int 0, .int 0, .int 0]))]) S hK hP hD hS 0 rfl cfX4 4 lkX4_36 (by decide) rfl rfl rfl (Nat.le_of_ble_eq_true rfl) rfl dX4_advance_76 (fun H locs hP hD hS => ?_)
  refine lv_aload_n hx hb dX4_advance_79 rfl (lv_at hl 0 rfl) ?_
  refine lv_iconst (v := 0) hx hb dX4_advance_80 (by decide) ?_
  refine x_put (ws' := [((o 1), .inr (4, [.ref (o 15), .int 0, .int 0, .int (-1), .int 0, .int 0, .int 0, .int 0, .int 0]))]) S hK hP hD hS 0 rfl cfX4 7 lkX4_145 (by decide) rfl rfl rfl (Nat.le_of_ble_eq_true rfl) rfl dX4_advance_81 (fun H locs hP hD hS => ?_)
  refine lv_aload_n hx hb dX4_advance_84 rfl (lv_at hl 0 rfl) ?_
  refine lv_aload_n hx hb dX4_advance_85 rfl (lv_at hl 0 rfl) ?_
  refine x_get S hK hP 0 rfl cfX4 5 lkX4_148 (by decide) rfl dX4_advance_86 ?_
  refine x_put (ws' := [((o 1), .inr (4, [.ref (o 15), .int 0, .int 0, .int (-1), .int 0, .int 0, .int 0, .int 0, .int 0]))]) S hK hP hD hS 0 rfl cfX4 6 lkX4_30 (by decide) rfl rfl rfl (Nat.le_of_ble_eq_true rfl) rfl dX4_advance_89 (fun H locs hP hD hS => ?_)
  refine lv_aload_n hx hb dX4_advance_92 rfl (lv_at hl 0 rfl) ?_
  refine x_get S hK hP 0 rfl cfX4 4 lkX4_36 (by decide) rfl dX4_advance_93 ?_
  refine lv_iconst (v := 1) hx hb dX4_advance_96 (by decide) ?_
  refine lv_icmp_eq (tgt := 108) hx hb dX4_advance_97 (by decide) (fun c_3 => absurd c_3 (by decide)) (fun c_3 => ?_)
  refine lv_aload_n hx hb dX4_advance_100 rfl (lv_at hl 0 rfl) ?_
  refine x_get S hK hP 0 rfl cfX4 4 lkX4_36 (by decide) rfl dX4_advance_101 ?_
  refine lv_iconst (v := 2) hx hb dX4_advance_104 (by decide) ?_
  refine lv_icmp_ne (tgt := 112) hx hb dX4_advance_105 (by decide) (fun c_4 => ?_) (fun c_4 => absurd c_4 (by decide))
  refine lv_iconst (v := 0) hx hb dX4_advance_112 (by decide) ?_
  refine lv_istore_n (lv' := [(1, .int 0), (0, .ref (o 1))]) hx hb dX4_advance_113 rfl hl (by decide) rfl (fun ls hl => ?_)
  refine lv_aload_n hx hb dX4_advance_114 rfl (lv_at hl 1 rfl) ?_
  refine x_get S hK hP 0 rfl cfX4 6 lkX4_30 (by decide) rfl dX4_advance_115 ?_
  refine lv_aload_n hx hb dX4_advance_118 rfl (lv_at hl 1 rfl) ?_
  refine x_get S hK hP 0 rfl cfX4 1 lkX4_19 (by decide) rfl dX4_advance_119 ?_
  refine lv_icmp_ge (tgt := 210) hx hb dX4_advance_122 (by decide) (fun c_5 => ?_) (fun c_5 => absurd (by decide) c_5)
  exact x_retv S hr hlk hQ hS () trivial (x_B (hP.sub [0] rfl) (hD.sub [0] (by decide) rfl)) dX4_advance_210

set_option maxHeartbeats 4000000 in
set_option maxRecDepth 100000 in
theorem ctX4_parse (l : Launch) (D : va_G) (k : Nat → ClassId) (o : Nat → Nat)  : MU l yX4_parse cX4_parse 3 (some .boolean) 1 D k [.ref (o 1), .ref (o 2)] [((o 1), .inr (4, [.ref (o 15), .int 0, .int 0, .int (-1), .int 0, .int 0, .int 0, .int 0, .int 0])), ((o 2), .inr (2, [.int 0, .int 0, .int 0, .int 0, .int 0, .int 0, .int 0, .int 0, .int 0, .ref (o 16), .ref (o 17), .ref (o 18), .ref (o 19), .ref (o 20), .ref (o 21), .ref (o 22), .ref (o 23), .ref (o 24), .ref (o 25)]))] 0 0 (Ui D (fun (r : Int32) (u : Unit) => r = 1) (fun u : Unit => [((o 1), .inr (4, [.ref (o 15), .int 0, .int 0, .int (-1), .int 0, .int 0, .int 0, .int 0, .int 0])), ((o 2), .inr (2, [.int 0, .int 0, .int 0, .int 0, .int 0, .int 0, .int 0, .int 0, .int 0, .ref (o 16), .ref (o 17), .ref (o 18), .ref (o 19), .ref (o 20), .ref (o 21), .ref (o 22), .ref (o 23), .ref (o 24), .ref (o 25)]))])) := by
  refine MU.of (by decide) (Nat.le_of_ble_eq_true rfl) ?_
  intro p e s m below meth c ls A args Q S hr hlk hnm hQ hK hP hD hA hS hl
  have hx := S.1
  have hb := S.2.1
  have hl : lv_has ls 3 [(0, .ref (o 1)), (1, .ref (o 2))] := hl
  refine lv_aload_n hx hb dX4_parse_0 rfl (lv_at hl 1 rfl) ?_
  refine x_muVv (wr := [((o 1), .inr (4, [.ref (o 15), .int 0, .int 0, .int (-1), .int 0, .int 0, .int 0, .int 0, .int 0]))]) (As := []) S hK hP hD hS hA hl mwX2_clear lkX4_22 (ctX2_clear l D k o ) [1] [0] rfl rfl (by decide) (by decide) (by decide) rfl rfl rfl rfl rfl ⟨Nat.le_of_ble_eq_true rfl, Nat.le_of_ble_eq_true rfl, Nat.le_of_ble_eq_true rfl⟩ dX4_parse_1 ⟨Nat.le_of_ble_eq_true rfl, Nat.le_of_ble_eq_true rfl⟩ (fun u_2 H locs hr_1 hP hD hS => ?_)
  have hP : va_P D vwCl [((o 1), .inr (4, [.ref (o 15), .int 0, .int 0, .int (-1), .int 0, .int 0, .int 0, .int 0, .int 0])), ((o 2), .inr (2, [.int 0, .int 0, .int 0, .int 0, .int 0, .int 0, .int 0, .int 0, .int 0, .ref (o 16), .ref (o 17), .ref (o 18), .ref (o 19), .ref (o 20), .ref (o 21), .ref (o 22), .ref (o 23), .ref (o 24), .ref (o 25)]))] H := hP
  have hD : va_D A [((o 1), .inr (4, [.ref (o 15), .int 0, .int 0, .int (-1), .int 0, .int 0, .int 0, .int 0, .int 0])), ((o 2), .inr (2, [.int 0, .int 0, .int 0, .int 0, .int 0, .int 0, .int 0, .int 0, .int 0, .ref (o 16), .ref (o 17), .ref (o 18), .ref (o 19), .ref (o 20), .ref (o 21), .ref (o 22), .ref (o 23), .ref (o 24), .ref (o 25)]))] := hD
  refine lv_aload_n hx hb dX4_parse_4 rfl (lv_at hl 0 rfl) ?_
  refine lv_iconst (v := 0) hx hb dX4_parse_5 (by decide) ?_
  refine x_put (ws' := [((o 1), .inr (4, [.ref (o 15), .int 0, .int 0, .int (-1), .int 0, .int 0, .int 0, .int 0, .int 0])), ((o 2), .inr (2, [.int 0, .int 0, .int 0, .int 0, .int 0, .int 0, .int 0, .int 0, .int 0, .ref (o 16), .ref (o 17), .ref (o 18), .ref (o 19), .ref (o 20), .ref (o 21), .ref (o 22), .ref (o 23), .ref (o 24), .ref (o 25)]))]) S hK hP hD hS 0 rfl cfX4 2 lkX4_27 (by decide) rfl rfl rfl (Nat.le_of_ble_eq_true rfl) rfl dX4_parse_6 (fun H locs hP hD hS => ?_)
  refine lv_aload_n hx hb dX4_parse_9 rfl (lv_at hl 0 rfl) ?_
  refine lv_iconst (v := (-1)) hx hb dX4_parse_10 (by decide) ?_
  refine x_put (ws' := [((o 1), .inr (4, [.ref (o 15), .int 0, .int 0, .int (-1), .int 0, .int 0, .int 0, .int 0, .int 0])), ((o 2), .inr (2, [.int 0, .int 0, .int 0, .int 0, .int 0, .int 0, .int 0, .int 0, .int 0, .ref (o 16), .ref (o 17), .ref (o 18), .ref (o 19), .ref (o 20), .ref (o 21), .ref (o 22), .ref (o 23), .ref (o 24), .ref (o 25)]))]) S hK hP hD hS 0 rfl cfX4 3 lkX4_15 (by decide) rfl rfl rfl (Nat.le_of_ble_eq_true rfl) rfl dX4_parse_11 (fun H locs hP hD hS => ?_)
  refine lv_aload_n hx hb dX4_parse_14 rfl (lv_at hl 0 rfl) ?_
  refine lv_iconst (v := 0) hx hb dX4_parse_15 (by decide) ?_
  refine x_put (ws' := [((o 1), .inr (4, [.ref (o 15), .int 0, .int 0, .int (-1), .int 0, .int 0, .int 0, .int 0, .int 0])), ((o 2), .inr (2, [.int 0, .int 0, .int 0, .int 0, .int 0, .int 0, .int 0, .int 0, .int 0, .ref (o 16), .ref (o 17), .ref (o 18), .ref (o 19), .ref (o 20), .ref (o 21), .ref (o 22), .ref (o 23), .ref (o 24), .ref (o 25)]))]) S hK hP hD hS 0 rfl cfX4 6 lkX4_30 (by decide) rfl rfl rfl (Nat.le_of_ble_eq_true rfl) rfl dX4_parse_16 (fun H locs hP hD hS => ?_)
  refine lv_aload_n hx hb dX4_parse_19 rfl (lv_at hl 0 rfl) ?_
  refine x_muVv (wr := [((o 2), .inr (2, [.int 0, .int 0, .int 0, .int 0, .int 0, .int 0, .int 0, .int 0, .int 0, .ref (o 16), .ref (o 17), .ref (o 18), .ref (o 19), .ref (o 20), .ref (o 21), .ref (o 22), .ref (o 23), .ref (o 24), .ref (o 25)]))]) (As := []) S hK hP hD hS hA hl mwX4_advance lkX4_33 (ctX4_advance l D k o ) [0] [1] rfl rfl (by decide) (by decide) (by decide) rfl rfl rfl rfl rfl ⟨Nat.le_of_ble_eq_true rfl, Nat.le_of_ble_eq_true rfl, Nat.le_of_ble_eq_true rfl⟩ dX4_parse_20 ⟨Nat.le_of_ble_eq_true rfl, Nat.le_of_ble_eq_true rfl⟩ (fun u_4 H locs hr_3 hP hD hS => ?_)
  have hP : va_P D vwCl [((o 2), .inr (2, [.int 0, .int 0, .int 0, .int 0, .int 0, .int 0, .int 0, .int 0, .int 0, .ref (o 16), .ref (o 17), .ref (o 18), .ref (o 19), .ref (o 20), .ref (o 21), .ref (o 22), .ref (o 23), .ref (o 24), .ref (o 25)])), ((o 1), .inr (4, [.ref (o 15), .int 0, .int 0, .int (-1), .int 0, .int 0, .int 0, .int 0, .int 0]))] H := hP
  have hD : va_D A [((o 2), .inr (2, [.int 0, .int 0, .int 0, .int 0, .int 0, .int 0, .int 0, .int 0, .int 0, .ref (o 16), .ref (o 17), .ref (o 18), .ref (o 19), .ref (o 20), .ref (o 21), .ref (o 22), .ref (o 23), .ref (o 24), .ref (o 25)])), ((o 1), .inr (4, [.ref (o 15), .int 0, .int 0, .int (-1), .int 0, .int 0, .int 0, .int 0, .int 0]))] := hD
  refine lv_iconst (v := 0) hx hb dX4_parse_23 (by decide) ?_
  refine lv_istore_n (lv' := [(2, .int 0), (0, .ref (o 1)), (1, .ref (o 2))]) hx hb dX4_parse_24 rfl hl (by decide) rfl (fun ls hl => ?_)
  refine lv_iload_n hx hb dX4_parse_25 rfl (lv_at hl 0 rfl) ?_
  refine lv_sipush (v := 600) hx hb dX4_parse_26 (by decide) ?_
  refine lv_icmp_ge (tgt := 65) hx hb dX4_parse_29 (by decide) (fun c_5 => absurd c_5 (by decide)) (fun c_5 => ?_)
  refine lv_aload_n hx hb dX4_parse_32 rfl (lv_at hl 1 rfl) ?_
  refine x_get S hK hP 1 rfl cfX4 4 lkX4_36 (by decide) rfl dX4_parse_33 ?_
  refine lv_if_eq (tgt := 65) hx hb dX4_parse_36 (by decide) (fun c_6 => ?_) (fun c_6 => absurd (by decide) c_6)
  refine lv_aload_n hx hb dX4_parse_65 rfl (lv_at hl 2 rfl) ?_
  refine x_muVv (wr := [((o 1), .inr (4, [.ref (o 15), .int 0, .int 0, .int (-1), .int 0, .int 0, .int 0, .int 0, .int 0]))]) (As := []) S hK hP hD hS hA hl mwX2_findNeighbours lkX4_46 (ctX2_findNeighbours l D k o ) [0] [1] rfl rfl (by decide) (by decide) (by decide) rfl rfl rfl rfl rfl ⟨Nat.le_of_ble_eq_true rfl, Nat.le_of_ble_eq_true rfl, Nat.le_of_ble_eq_true rfl⟩ dX4_parse_66 ⟨Nat.le_of_ble_eq_true rfl, Nat.le_of_ble_eq_true rfl⟩ (fun u_8 H locs hr_7 hP hD hS => ?_)
  have hP : va_P D vwCl [((o 1), .inr (4, [.ref (o 15), .int 0, .int 0, .int (-1), .int 0, .int 0, .int 0, .int 0, .int 0])), ((o 2), .inr (2, [.int 0, .int 0, .int 0, .int 0, .int 0, .int 0, .int 0, .int 0, .int 0, .ref (o 16), .ref (o 17), .ref (o 18), .ref (o 19), .ref (o 20), .ref (o 21), .ref (o 22), .ref (o 23), .ref (o 24), .ref (o 25)]))] H := hP
  have hD : va_D A [((o 1), .inr (4, [.ref (o 15), .int 0, .int 0, .int (-1), .int 0, .int 0, .int 0, .int 0, .int 0])), ((o 2), .inr (2, [.int 0, .int 0, .int 0, .int 0, .int 0, .int 0, .int 0, .int 0, .int 0, .ref (o 16), .ref (o 17), .ref (o 18), .ref (o 19), .ref (o 20), .ref (o 21), .ref (o 22), .ref (o 23), .ref (o 24), .ref (o 25)]))] := hD
  refine lv_iconst (v := 1) hx hb dX4_parse_69 (by decide) ?_
  exact x_retz S hr hlk hQ hS rfl () rfl (x_B (hP.sub [0, 1] rfl) (hD.sub [0, 1] (by decide) rfl)) dX4_parse_70

set_option maxHeartbeats 4000000 in
set_option maxRecDepth 100000 in
theorem ctX10_garden (l : Launch) (D : va_G) (k : Nat → ClassId) (o : Nat → Nat) (f0 : Nat → Int32) (f1 : Nat → Int32) (f2 : Nat → Int32) (f3 : Nat → Int32) (f4 : Nat → Int32) (f5 : Nat → Int32)  : MU l yX10_garden cX10_garden 1 (some .int) 3 D k [.ref (o 0)] [((o 0), .inr (10, [.ref (o 1), .ref (o 2), .ref (o 3), .ref (o 4), .ref (o 5), .ref (o 6), .ref (o 7), .ref (o 8), .ref (o 9), .ref (o 10), .ref (o 11), .ref (o 12), .ref (o 13), .ref (o 14)])), ((o 3), .inr (2, [.int 0, .int 0, .int 0, .int 0, .int 0, .int 0, .int 0, .int 0, .int 0, .ref (o 26), .ref (o 27), .ref (o 28), .ref (o 29), .ref (o 30), .ref (o 31), .ref (o 32), .ref (o 33), .ref (o 34), .ref (o 35)])), ((o 4), .inr (3, [.ref (o 69), .ref (o 70), .ref (o 71)])), ((o 69), .inl (k 0, 17, .inl f0)), ((o 70), .inl (k 0, 17, .inl f1)), ((o 71), .inl (k 0, 17, .inl f2)), ((o 5), .inr (1, [.ref (o 3), .ref (o 4), .int 0, .int 0, .int 0, .int 0, .int 0, .ref (o 72)])), ((o 72), .inl (k 0, 17, .inl f3)), ((o 8), .inr (8, [.ref (o 3), .ref (o 4), .ref (o 6), .ref (o 74), .ref (o 75), .ref (o 76)])), ((o 74), .inl (k 0, 3, .inl f4)), ((o 76), .inl (k 3, 3, .inl f5)), ((o 9), .inr (0, [.ref (o 3), .ref (o 6), .int (-2), .int 0])), ((o 1), .inr (4, [.ref (o 15), .int 0, .int 0, .int (-1), .int 0, .int 0, .int 0, .int 0, .int 0])), ((o 2), .inr (2, [.int 0, .int 0, .int 0, .int 0, .int 0, .int 0, .int 0, .int 0, .int 0, .ref (o 16), .ref (o 17), .ref (o 18), .ref (o 19), .ref (o 20), .ref (o 21), .ref (o 22), .ref (o 23), .ref (o 24), .ref (o 25)])), ((o 16), .inl (k 0, 12, .inl (fun _ => 0))), ((o 17), .inl (k 0, 12, .inl (fun _ => 0))), ((o 18), .inl (k 0, 12, .inl (fun _ => 0))), ((o 19), .inl (k 0, 12, .inl (fun _ => 0))), ((o 20), .inl (k 0, 12, .inl (fun _ => 0))), ((o 21), .inl (k 0, 12, .inl (fun _ => 0))), ((o 22), .inl (k 0, 4, .inl (fun _ => 0))), ((o 23), .inl (k 0, 42, .inl (fun _ => 0))), ((o 24), .inl (k 0, 42, .inl (fun _ => 0))), ((o 25), .inl (k 0, 42, .inl (fun _ => 0))), ((o 26), .inl (k 0, 12, .inl (fun _ => 0))), ((o 27), .inl (k 0, 12, .inl (fun _ => 0))), ((o 28), .inl (k 0, 12, .inl (fun _ => 0))), ((o 29), .inl (k 0, 12, .inl (fun _ => 0))), ((o 30), .inl (k 0, 12, .inl (fun _ => 0))), ((o 31), .inl (k 0, 12, .inl (fun _ => 0))), ((o 32), .inl (k 0, 4, .inl (fun _ => 0))), ((o 33), .inl (k 0, 42, .inl (fun _ => 0))), ((o 34), .inl (k 0, 42, .inl (fun _ => 0))), ((o 35), .inl (k 0, 42, .inl (fun _ => 0)))] 0 0 (Ui D (fun (r : Int32) (u : Unit) => r = 0) (fun _ : Unit => [])) := by
  refine MU.of (by decide) (Nat.le_of_ble_eq_true rfl) ?_
  intro p e s m below meth c ls A args Q S hr hlk hnm hQ hK hP hD hA hS hl
  have hx := S.1
  have hb := S.2.1
  have hl : lv_has ls 1 [(0, .ref (o 0))] := hl
  refine lv_aload_n hx hb dX10_garden_0 rfl (lv_at hl 0 rfl) ?_
  refine x_get S hK hP 0 rfl cfX10 0 lkX10_10 (by decide) rfl dX10_garden_1 ?_
  refine lv_aload_n hx hb dX10_garden_4 rfl (lv_at hl 0 rfl) ?_
  refine x_get S hK hP 0 rfl cfX10 1 lkX10_19 (by decide) rfl dX10_garden_5 ?_
  refine x_muVi (wr := [((o 0), .inr (10, [.ref (o 1), .ref (o 2), .ref (o 3), .ref (o 4), .ref (o 5), .ref (o 6), .ref (o 7), .ref (o 8), .ref (o 9), .ref (o 10), .ref (o 11), .ref (o 12), .ref (o 13), .ref (o 14)])), ((o 3), .inr (2, [.int 0, .int 0, .int 0, .int 0, .int 0, .int 0, .int 0, .int 0, .int 0, .ref (o 26), .ref (o 27), .ref (o 28), .ref (o 29), .ref (o 30), .ref (o 31), .ref (o 32), .ref (o 33), .ref (o 34), .ref (o 35)])), ((o 4), .inr (3, [.ref (o 69), .ref (o 70), .ref (o 71)])), ((o 69), .inl (k 0, 17, .inl f0)), ((o 70), .inl (k 0, 17, .inl f1)), ((o 71), .inl (k 0, 17, .inl f2)), ((o 5), .inr (1, [.ref (o 3), .ref (o 4), .int 0, .int 0, .int 0, .int 0, .int 0, .ref (o 72)])), ((o 72), .inl (k 0, 17, .inl f3)), ((o 8), .inr (8, [.ref (o 3), .ref (o 4), .ref (o 6), .ref (o 74), .ref (o 75), .ref (o 76)])), ((o 74), .inl (k 0, 3, .inl f4)), ((o 76), .inl (k 3, 3, .inl f5)), ((o 9), .inr (0, [.ref (o 3), .ref (o 6), .int (-2), .int 0])), ((o 16), .inl (k 0, 12, .inl (fun _ => 0))), ((o 17), .inl (k 0, 12, .inl (fun _ => 0))), ((o 18), .inl (k 0, 12, .inl (fun _ => 0))), ((o 19), .inl (k 0, 12, .inl (fun _ => 0))), ((o 20), .inl (k 0, 12, .inl (fun _ => 0))), ((o 21), .inl (k 0, 12, .inl (fun _ => 0))), ((o 22), .inl (k 0, 4, .inl (fun _ => 0))), ((o 23), .inl (k 0, 42, .inl (fun _ => 0))), ((o 24), .inl (k 0, 42, .inl (fun _ => 0))), ((o 25), .inl (k 0, 42, .inl (fun _ => 0))), ((o 26), .inl (k 0, 12, .inl (fun _ => 0))), ((o 27), .inl (k 0, 12, .inl (fun _ => 0))), ((o 28), .inl (k 0, 12, .inl (fun _ => 0))), ((o 29), .inl (k 0, 12, .inl (fun _ => 0))), ((o 30), .inl (k 0, 12, .inl (fun _ => 0))), ((o 31), .inl (k 0, 12, .inl (fun _ => 0))), ((o 32), .inl (k 0, 4, .inl (fun _ => 0))), ((o 33), .inl (k 0, 42, .inl (fun _ => 0))), ((o 34), .inl (k 0, 42, .inl (fun _ => 0))), ((o 35), .inl (k 0, 42, .inl (fun _ => 0)))]) (As := [.ref (o 2)]) S hK hP hD hS hA hl mwX4_parse lkX10_118 (ctX4_parse l D k o ) [12, 13] [0, 1, 2, 3, 4, 5, 6, 7, 8, 9, 10, 11, 14, 15, 16, 17, 18, 19, 20, 21, 22, 23, 24, 25, 26, 27, 28, 29, 30, 31, 32, 33] rfl rfl (by decide) (by decide) (by decide) rfl rfl rfl rfl rfl ⟨Nat.le_of_ble_eq_true rfl, Nat.le_of_ble_eq_true rfl, Nat.le_of_ble_eq_true rfl⟩ dX10_garden_8 ⟨Nat.le_of_ble_eq_true rfl, Nat.le_of_ble_eq_true rfl⟩ (fun r_1 u_2 H locs hr_1 hP hD hS => ?_)
  have hP : va_P D vwCl [((o 0), .inr (10, [.ref (o 1), .ref (o 2), .ref (o 3), .ref (o 4), .ref (o 5), .ref (o 6), .ref (o 7), .ref (o 8), .ref (o 9), .ref (o 10), .ref (o 11), .ref (o 12), .ref (o 13), .ref (o 14)])), ((o 3), .inr (2, [.int 0, .int 0, .int 0, .int 0, .int 0, .int 0, .int 0, .int 0, .int 0, .ref (o 26), .ref (o 27), .ref (o 28), .ref (o 29), .ref (o 30), .ref (o 31), .ref (o 32), .ref (o 33), .ref (o 34), .ref (o 35)])), ((o 4), .inr (3, [.ref (o 69), .ref (o 70), .ref (o 71)])), ((o 69), .inl (k 0, 17, .inl f0)), ((o 70), .inl (k 0, 17, .inl f1)), ((o 71), .inl (k 0, 17, .inl f2)), ((o 5), .inr (1, [.ref (o 3), .ref (o 4), .int 0, .int 0, .int 0, .int 0, .int 0, .ref (o 72)])), ((o 72), .inl (k 0, 17, .inl f3)), ((o 8), .inr (8, [.ref (o 3), .ref (o 4), .ref (o 6), .ref (o 74), .ref (o 75), .ref (o 76)])), ((o 74), .inl (k 0, 3, .inl f4)), ((o 76), .inl (k 3, 3, .inl f5)), ((o 9), .inr (0, [.ref (o 3), .ref (o 6), .int (-2), .int 0])), ((o 16), .inl (k 0, 12, .inl (fun _ => 0))), ((o 17), .inl (k 0, 12, .inl (fun _ => 0))), ((o 18), .inl (k 0, 12, .inl (fun _ => 0))), ((o 19), .inl (k 0, 12, .inl (fun _ => 0))), ((o 20), .inl (k 0, 12, .inl (fun _ => 0))), ((o 21), .inl (k 0, 12, .inl (fun _ => 0))), ((o 22), .inl (k 0, 4, .inl (fun _ => 0))), ((o 23), .inl (k 0, 42, .inl (fun _ => 0))), ((o 24), .inl (k 0, 42, .inl (fun _ => 0))), ((o 25), .inl (k 0, 42, .inl (fun _ => 0))), ((o 26), .inl (k 0, 12, .inl (fun _ => 0))), ((o 27), .inl (k 0, 12, .inl (fun _ => 0))), ((o 28), .inl (k 0, 12, .inl (fun _ => 0))), ((o 29), .inl (k 0, 12, .inl (fun _ => 0))), ((o 30), .inl (k 0, 12, .inl (fun _ => 0))), ((o 31), .inl (k 0, 12, .inl (fun _ => 0))), ((o 32), .inl (k 0, 4, .inl (fun _ => 0))), ((o 33), .inl (k 0, 42, .inl (fun _ => 0))), ((o 34), .inl (k 0, 42, .inl (fun _ => 0))), ((o 35), .inl (k 0, 42, .inl (fun _ => 0))), ((o 1), .inr (4, [.ref (o 15), .int 0, .int 0, .int (-1), .int 0, .int 0, .int 0, .int 0, .int 0])), ((o 2), .inr (2, [.int 0, .int 0, .int 0, .int 0, .int 0, .int 0, .int 0, .int 0, .int 0, .ref (o 16), .ref (o 17), .ref (o 18), .ref (o 19), .ref (o 20), .ref (o 21), .ref (o 22), .ref (o 23), .ref (o 24), .ref (o 25)]))] H := hP
  have hD : va_D A [((o 0), .inr (10, [.ref (o 1), .ref (o 2), .ref (o 3), .ref (o 4), .ref (o 5), .ref (o 6), .ref (o 7), .ref (o 8), .ref (o 9), .ref (o 10), .ref (o 11), .ref (o 12), .ref (o 13), .ref (o 14)])), ((o 3), .inr (2, [.int 0, .int 0, .int 0, .int 0, .int 0, .int 0, .int 0, .int 0, .int 0, .ref (o 26), .ref (o 27), .ref (o 28), .ref (o 29), .ref (o 30), .ref (o 31), .ref (o 32), .ref (o 33), .ref (o 34), .ref (o 35)])), ((o 4), .inr (3, [.ref (o 69), .ref (o 70), .ref (o 71)])), ((o 69), .inl (k 0, 17, .inl f0)), ((o 70), .inl (k 0, 17, .inl f1)), ((o 71), .inl (k 0, 17, .inl f2)), ((o 5), .inr (1, [.ref (o 3), .ref (o 4), .int 0, .int 0, .int 0, .int 0, .int 0, .ref (o 72)])), ((o 72), .inl (k 0, 17, .inl f3)), ((o 8), .inr (8, [.ref (o 3), .ref (o 4), .ref (o 6), .ref (o 74), .ref (o 75), .ref (o 76)])), ((o 74), .inl (k 0, 3, .inl f4)), ((o 76), .inl (k 3, 3, .inl f5)), ((o 9), .inr (0, [.ref (o 3), .ref (o 6), .int (-2), .int 0])), ((o 16), .inl (k 0, 12, .inl (fun _ => 0))), ((o 17), .inl (k 0, 12, .inl (fun _ => 0))), ((o 18), .inl (k 0, 12, .inl (fun _ => 0))), ((o 19), .inl (k 0, 12, .inl (fun _ => 0))), ((o 20), .inl (k 0, 12, .inl (fun _ => 0))), ((o 21), .inl (k 0, 12, .inl (fun _ => 0))), ((o 22), .inl (k 0, 4, .inl (fun _ => 0))), ((o 23), .inl (k 0, 42, .inl (fun _ => 0))), ((o 24), .inl (k 0, 42, .inl (fun _ => 0))), ((o 25), .inl (k 0, 42, .inl (fun _ => 0))), ((o 26), .inl (k 0, 12, .inl (fun _ => 0))), ((o 27), .inl (k 0, 12, .inl (fun _ => 0))), ((o 28), .inl (k 0, 12, .inl (fun _ => 0))), ((o 29), .inl (k 0, 12, .inl (fun _ => 0))), ((o 30), .inl (k 0, 12, .inl (fun _ => 0))), ((o 31), .inl (k 0, 12, .inl (fun _ => 0))), ((o 32), .inl (k 0, 4, .inl (fun _ => 0))), ((o 33), .inl (k 0, 42, .inl (fun _ => 0))), ((o 34), .inl (k 0, 42, .inl (fun _ => 0))), ((o 35), .inl (k 0, 42, .inl (fun _ => 0))), ((o 1), .inr (4, [.ref (o 15), .int 0, .int 0, .int (-1), .int 0, .int 0, .int 0, .int 0, .int 0])), ((o 2), .inr (2, [.int 0, .int 0, .int 0, .int 0, .int 0, .int 0, .int 0, .int 0, .int 0, .ref (o 16), .ref (o 17), .ref (o 18), .ref (o 19), .ref (o 20), .ref (o 21), .ref (o 22), .ref (o 23), .ref (o 24), .ref (o 25)]))] := hD
  subst hr_1
  refine lv_if_ne (tgt := 17) hx hb dX10_garden_11 (by decide) (fun c_3 => ?_) (fun c_3 => absurd c_3 (by decide))
  refine lv_aload_n hx hb dX10_garden_17 rfl (lv_at hl 0 rfl) ?_
  refine x_get S hK hP 0 rfl cfX10 0 lkX10_10 (by decide) rfl dX10_garden_18 ?_
  refine lv_iconst (v := 0) hx hb dX10_garden_21 (by decide) ?_
  refine x_put (ws' := [((o 0), .inr (10, [.ref (o 1), .ref (o 2), .ref (o 3), .ref (o 4), .ref (o 5), .ref (o 6), .ref (o 7), .ref (o 8), .ref (o 9), .ref (o 10), .ref (o 11), .ref (o 12), .ref (o 13), .ref (o 14)])), ((o 3), .inr (2, [.int 0, .int 0, .int 0, .int 0, .int 0, .int 0, .int 0, .int 0, .int 0, .ref (o 26), .ref (o 27), .ref (o 28), .ref (o 29), .ref (o 30), .ref (o 31), .ref (o 32), .ref (o 33), .ref (o 34), .ref (o 35)])), ((o 4), .inr (3, [.ref (o 69), .ref (o 70), .ref (o 71)])), ((o 69), .inl (k 0, 17, .inl f0)), ((o 70), .inl (k 0, 17, .inl f1)), ((o 71), .inl (k 0, 17, .inl f2)), ((o 5), .inr (1, [.ref (o 3), .ref (o 4), .int 0, .int 0, .int 0, .int 0, .int 0, .ref (o 72)])), ((o 72), .inl (k 0, 17, .inl f3)), ((o 8), .inr (8, [.ref (o 3), .ref (o 4), .ref (o 6), .ref (o 74), .ref (o 75), .ref (o 76)])), ((o 74), .inl (k 0, 3, .inl f4)), ((o 76), .inl (k 3, 3, .inl f5)), ((o 9), .inr (0, [.ref (o 3), .ref (o 6), .int (-2), .int 0])), ((o 16), .inl (k 0, 12, .inl (fun _ => 0))), ((o 17), .inl (k 0, 12, .inl (fun _ => 0))), ((o 18), .inl (k 0, 12, .inl (fun _ => 0))), ((o 19), .inl (k 0, 12, .inl (fun _ => 0))), ((o 20), .inl (k 0, 12, .inl (fun _ => 0))), ((o 21), .inl (k 0, 12, .inl (fun _ => 0))), ((o 22), .inl (k 0, 4, .inl (fun _ => 0))), ((o 23), .inl (k 0, 42, .inl (fun _ => 0))), ((o 24), .inl (k 0, 42, .inl (fun _ => 0))), ((o 25), .inl (k 0, 42, .inl (fun _ => 0))), ((o 26), .inl (k 0, 12, .inl (fun _ => 0))), ((o 27), .inl (k 0, 12, .inl (fun _ => 0))), ((o 28), .inl (k 0, 12, .inl (fun _ => 0))), ((o 29), .inl (k 0, 12, .inl (fun _ => 0))), ((o 30), .inl (k 0, 12, .inl (fun _ => 0))), ((o 31), .inl (k 0, 12, .inl (fun _ => 0))), ((o 32), .inl (k 0, 4, .inl (fun _ => 0))), ((o 33), .inl (k 0, 42, .inl (fun _ => 0))), ((o 34), .inl (k 0, 42, .inl (fun _ => 0))), ((o 35), .inl (k 0, 42, .inl (fun _ => 0))), ((o 1), .inr (4, [.ref (o 15), .int 0, .int 0, .int (-1), .int 0, .int 0, .int 0, .int 0, .int 0])), ((o 2), .inr (2, [.int 0, .int 0, .int 0, .int 0, .int 0, .int 0, .int 0, .int 0, .int 0, .ref (o 16), .ref (o 17), .ref (o 18), .ref (o 19), .ref (o 20), .ref (o 21), .ref (o 22), .ref (o 23), .ref (o 24), .ref (o 25)]))]) S hK hP hD hS 32 rfl cfX4 1 lkX10_114 (by decide) rfl rfl rfl (Nat.le_of_ble_eq_true rfl) rfl dX10_garden_22 (fun H locs hP hD hS => ?_)
  refine lv_aload_n hx hb dX10_garden_25 rfl (lv_at hl 0 rfl) ?_
  refine x_get S hK hP 0 rfl cfX10 2 lkX10_23 (by decide) rfl dX10_garden_26 ?_
  refine lv_aload_n hx hb dX10_garden_29 rfl (lv_at hl 0 rfl) ?_
  refine x_get S hK hP 0 rfl cfX10 1 lkX10_19 (by decide) rfl dX10_garden_30 ?_
  refine x_muVv (wr := [((o 0), .inr (10, [.ref (o 1), .ref (o 2), .ref (o 3), .ref (o 4), .ref (o 5), .ref (o 6), .ref (o 7), .ref (o 8), .ref (o 9), .ref (o 10), .ref (o 11), .ref (o 12), .ref (o 13), .ref (o 14)])), ((o 4), .inr (3, [.ref (o 69), .ref (o 70), .ref (o 71)])), ((o 69), .inl (k 0, 17, .inl f0)), ((o 70), .inl (k 0, 17, .inl f1)), ((o 71), .inl (k 0, 17, .inl f2)), ((o 5), .inr (1, [.ref (o 3), .ref (o 4), .int 0, .int 0, .int 0, .int 0, .int 0, .ref (o 72)])), ((o 72), .inl (k 0, 17, .inl f3)), ((o 8), .inr (8, [.ref (o 3), .ref (o 4), .ref (o 6), .ref (o 74), .ref (o 75), .ref (o 76)])), ((o 74), .inl (k 0, 3, .inl f4)), ((o 76), .inl (k 3, 3, .inl f5)), ((o 9), .inr (0, [.ref (o 3), .ref (o 6), .int (-2), .int 0])), ((o 1), .inr (4, [.ref (o 15), .int 0, .int 0, .int (-1), .int 0, .int 0, .int 0, .int 0, .int 0]))]) (As := [.ref (o 2)]) S hK hP hD hS hA hl mwX2_copy lkX10_122 (ctX2_copy l D k (fun i => ([(o 3), (o 26), (o 27), (o 28), (o 29), (o 30), (o 31), (o 32), (o 33), (o 34), (o 35)] : List Nat).getD i 0) (fun i => ([(o 2), (o 16), (o 17), (o 18), (o 19), (o 20), (o 21), (o 22), (o 23), (o 24), (o 25)] : List Nat).getD i 0) 0 0 0 0 0 0 0 0 0 0 0 0 0 0 0 0 0 0 (fun _ => 0) (fun _ => 0) (fun _ => 0) (fun _ => 0) (fun _ => 0) (fun _ => 0) (fun _ => 0) (fun _ => 0) (fun _ => 0) (fun _ => 0) (fun _ => 0) (fun _ => 0) (fun _ => 0) (fun _ => 0) (fun _ => 0) (fun _ => 0) (fun _ => 0) (fun _ => 0) (fun _ => 0) (fun _ => 0) ) [1, 22, 23, 24, 25, 26, 27, 28, 29, 30, 31, 33, 12, 13, 14, 15, 16, 17, 18, 19, 20, 21] [0, 2, 3, 4, 5, 6, 7, 8, 9, 10, 11, 32] rfl rfl (by decide) (by decide) (by decide) rfl rfl rfl rfl rfl ⟨Nat.le_of_ble_eq_true rfl, Nat.le_of_ble_eq_true rfl, Nat.le_of_ble_eq_true rfl⟩ dX10_garden_33 ⟨Nat.le_of_ble_eq_true rfl, Nat.le_of_ble_eq_true rfl⟩ (fun u_5 H locs hr_4 hP hD hS => ?_)
  have hP : va_P D vwCl [((o 0), .inr (10, [.ref (o 1), .ref (o 2), .ref (o 3), .ref (o 4), .ref (o 5), .ref (o 6), .ref (o 7), .ref (o 8), .ref (o 9), .ref (o 10), .ref (o 11), .ref (o 12), .ref (o 13), .ref (o 14)])), ((o 4), .inr (3, [.ref (o 69), .ref (o 70), .ref (o 71)])), ((o 69), .inl (k 0, 17, .inl f0)), ((o 70), .inl (k 0, 17, .inl f1)), ((o 71), .inl (k 0, 17, .inl f2)), ((o 5), .inr (1, [.ref (o 3), .ref (o 4), .int 0, .int 0, .int 0, .int 0, .int 0, .ref (o 72)])), ((o 72), .inl (k 0, 17, .inl f3)), ((o 8), .inr (8, [.ref (o 3), .ref (o 4), .ref (o 6), .ref (o 74), .ref (o 75), .ref (o 76)])), ((o 74), .inl (k 0, 3, .inl f4)), ((o 76), .inl (k 3, 3, .inl f5)), ((o 9), .inr (0, [.ref (o 3), .ref (o 6), .int (-2), .int 0])), ((o 1), .inr (4, [.ref (o 15), .int 0, .int 0, .int (-1), .int 0, .int 0, .int 0, .int 0, .int 0])), ((o 3), .inr (2, [.int 0, .int 0, .int 0, .int 0, .int 0, .int 0, .int 0, .int 0, .int 0, .ref (o 26), .ref (o 27), .ref (o 28), .ref (o 29), .ref (o 30), .ref (o 31), .ref (o 32), .ref (o 33), .ref (o 34), .ref (o 35)])), ((o 26), .inl (k 0, 12, .inl (u_5 0))), ((o 27), .inl (k 0, 12, .inl (u_5 1))), ((o 28), .inl (k 0, 12, .inl (u_5 2))), ((o 29), .inl (k 0, 12, .inl (u_5 3))), ((o 30), .inl (k 0, 12, .inl (u_5 4))), ((o 31), .inl (k 0, 12, .inl (u_5 5))), ((o 32), .inl (k 0, 4, .inl (u_5 6))), ((o 33), .inl (k 0, 42, .inl (u_5 7))), ((o 34), .inl (k 0, 42, .inl (u_5 8))), ((o 35), .inl (k 0, 42, .inl (u_5 9))), ((o 2), .inr (2, [.int 0, .int 0, .int 0, .int 0, .int 0, .int 0, .int 0, .int 0, .int 0, .ref (o 16), .ref (o 17), .ref (o 18), .ref (o 19), .ref (o 20), .ref (o 21), .ref (o 22), .ref (o 23), .ref (o 24), .ref (o 25)])), ((o 16), .inl (k 0, 12, .inl (fun _ => 0))), ((o 17), .inl (k 0, 12, .inl (fun _ => 0))), ((o 18), .inl (k 0, 12, .inl (fun _ => 0))), ((o 19), .inl (k 0, 12, .inl (fun _ => 0))), ((o 20), .inl (k 0, 12, .inl (fun _ => 0))), ((o 21), .inl (k 0, 12, .inl (fun _ => 0))), ((o 22), .inl (k 0, 4, .inl (fun _ => 0))), ((o 23), .inl (k 0, 42, .inl (fun _ => 0))), ((o 24), .inl (k 0, 42, .inl (fun _ => 0))), ((o 25), .inl (k 0, 42, .inl (fun _ => 0)))] H := hP
  have hD : va_D A [((o 0), .inr (10, [.ref (o 1), .ref (o 2), .ref (o 3), .ref (o 4), .ref (o 5), .ref (o 6), .ref (o 7), .ref (o 8), .ref (o 9), .ref (o 10), .ref (o 11), .ref (o 12), .ref (o 13), .ref (o 14)])), ((o 4), .inr (3, [.ref (o 69), .ref (o 70), .ref (o 71)])), ((o 69), .inl (k 0, 17, .inl f0)), ((o 70), .inl (k 0, 17, .inl f1)), ((o 71), .inl (k 0, 17, .inl f2)), ((o 5), .inr (1, [.ref (o 3), .ref (o 4), .int 0, .int 0, .int 0, .int 0, .int 0, .ref (o 72)])), ((o 72), .inl (k 0, 17, .inl f3)), ((o 8), .inr (8, [.ref (o 3), .ref (o 4), .ref (o 6), .ref (o 74), .ref (o 75), .ref (o 76)])), ((o 74), .inl (k 0, 3, .inl f4)), ((o 76), .inl (k 3, 3, .inl f5)), ((o 9), .inr (0, [.ref (o 3), .ref (o 6), .int (-2), .int 0])), ((o 1), .inr (4, [.ref (o 15), .int 0, .int 0, .int (-1), .int 0, .int 0, .int 0, .int 0, .int 0])), ((o 3), .inr (2, [.int 0, .int 0, .int 0, .int 0, .int 0, .int 0, .int 0, .int 0, .int 0, .ref (o 26), .ref (o 27), .ref (o 28), .ref (o 29), .ref (o 30), .ref (o 31), .ref (o 32), .ref (o 33), .ref (o 34), .ref (o 35)])), ((o 26), .inl (k 0, 12, .inl (u_5 0))), ((o 27), .inl (k 0, 12, .inl (u_5 1))), ((o 28), .inl (k 0, 12, .inl (u_5 2))), ((o 29), .inl (k 0, 12, .inl (u_5 3))), ((o 30), .inl (k 0, 12, .inl (u_5 4))), ((o 31), .inl (k 0, 12, .inl (u_5 5))), ((o 32), .inl (k 0, 4, .inl (u_5 6))), ((o 33), .inl (k 0, 42, .inl (u_5 7))), ((o 34), .inl (k 0, 42, .inl (u_5 8))), ((o 35), .inl (k 0, 42, .inl (u_5 9))), ((o 2), .inr (2, [.int 0, .int 0, .int 0, .int 0, .int 0, .int 0, .int 0, .int 0, .int 0, .ref (o 16), .ref (o 17), .ref (o 18), .ref (o 19), .ref (o 20), .ref (o 21), .ref (o 22), .ref (o 23), .ref (o 24), .ref (o 25)])), ((o 16), .inl (k 0, 12, .inl (fun _ => 0))), ((o 17), .inl (k 0, 12, .inl (fun _ => 0))), ((o 18), .inl (k 0, 12, .inl (fun _ => 0))), ((o 19), .inl (k 0, 12, .inl (fun _ => 0))), ((o 20), .inl (k 0, 12, .inl (fun _ => 0))), ((o 21), .inl (k 0, 12, .inl (fun _ => 0))), ((o 22), .inl (k 0, 4, .inl (fun _ => 0))), ((o 23), .inl (k 0, 42, .inl (fun _ => 0))), ((o 24), .inl (k 0, 42, .inl (fun _ => 0))), ((o 25), .inl (k 0, 42, .inl (fun _ => 0)))] := hD
  refine lv_aload_n hx hb dX10_garden_36 rfl (lv_at hl 0 rfl) ?_
  refine x_muVv (wr := [((o 1), .inr (4, [.ref (o 15), .int 0, .int 0, .int (-1), .int 0, .int 0, .int 0, .int 0, .int 0])), ((o 26), .inl (k 0, 12, .inl (u_5 0))), ((o 27), .inl (k 0, 12, .inl (u_5 1))), ((o 28), .inl (k 0, 12, .inl (u_5 2))), ((o 29), .inl (k 0, 12, .inl (u_5 3))), ((o 30), .inl (k 0, 12, .inl (u_5 4))), ((o 31), .inl (k 0, 12, .inl (u_5 5))), ((o 32), .inl (k 0, 4, .inl (u_5 6))), ((o 33), .inl (k 0, 42, .inl (u_5 7))), ((o 34), .inl (k 0, 42, .inl (u_5 8))), ((o 35), .inl (k 0, 42, .inl (u_5 9))), ((o 2), .inr (2, [.int 0, .int 0, .int 0, .int 0, .int 0, .int 0, .int 0, .int 0, .int 0, .ref (o 16), .ref (o 17), .ref (o 18), .ref (o 19), .ref (o 20), .ref (o 21), .ref (o 22), .ref (o 23), .ref (o 24), .ref (o 25)])), ((o 16), .inl (k 0, 12, .inl (fun _ => 0))), ((o 17), .inl (k 0, 12, .inl (fun _ => 0))), ((o 18), .inl (k 0, 12, .inl (fun _ => 0))), ((o 19), .inl (k 0, 12, .inl (fun _ => 0))), ((o 20), .inl (k 0, 12, .inl (fun _ => 0))), ((o 21), .inl (k 0, 12, .inl (fun _ => 0))), ((o 22), .inl (k 0, 4, .inl (fun _ => 0))), ((o 23), .inl (k 0, 42, .inl (fun _ => 0))), ((o 24), .inl (k 0, 42, .inl (fun _ => 0))), ((o 25), .inl (k 0, 42, .inl (fun _ => 0)))]) (As := []) S hK hP hD hS hA hl mwX10_retell lkX10_103 (ctX10_retell l D k o f0 f1 f2 f3 f4 f5 ) [0, 12, 1, 2, 3, 4, 5, 6, 7, 8, 9, 10] [11, 13, 14, 15, 16, 17, 18, 19, 20, 21, 22, 23, 24, 25, 26, 27, 28, 29, 30, 31, 32, 33] rfl rfl (by decide) (by decide) (by decide) rfl rfl rfl rfl rfl ⟨Nat.le_of_ble_eq_true rfl, Nat.le_of_ble_eq_true rfl, Nat.le_of_ble_eq_true rfl⟩ dX10_garden_37 ⟨Nat.le_of_ble_eq_true rfl, Nat.le_of_ble_eq_true rfl⟩ (fun u_7 H locs hr_6 hP hD hS => ?_)
  have hP : va_P D vwCl [((o 1), .inr (4, [.ref (o 15), .int 0, .int 0, .int (-1), .int 0, .int 0, .int 0, .int 0, .int 0])), ((o 26), .inl (k 0, 12, .inl (u_5 0))), ((o 27), .inl (k 0, 12, .inl (u_5 1))), ((o 28), .inl (k 0, 12, .inl (u_5 2))), ((o 29), .inl (k 0, 12, .inl (u_5 3))), ((o 30), .inl (k 0, 12, .inl (u_5 4))), ((o 31), .inl (k 0, 12, .inl (u_5 5))), ((o 32), .inl (k 0, 4, .inl (u_5 6))), ((o 33), .inl (k 0, 42, .inl (u_5 7))), ((o 34), .inl (k 0, 42, .inl (u_5 8))), ((o 35), .inl (k 0, 42, .inl (u_5 9))), ((o 2), .inr (2, [.int 0, .int 0, .int 0, .int 0, .int 0, .int 0, .int 0, .int 0, .int 0, .ref (o 16), .ref (o 17), .ref (o 18), .ref (o 19), .ref (o 20), .ref (o 21), .ref (o 22), .ref (o 23), .ref (o 24), .ref (o 25)])), ((o 16), .inl (k 0, 12, .inl (fun _ => 0))), ((o 17), .inl (k 0, 12, .inl (fun _ => 0))), ((o 18), .inl (k 0, 12, .inl (fun _ => 0))), ((o 19), .inl (k 0, 12, .inl (fun _ => 0))), ((o 20), .inl (k 0, 12, .inl (fun _ => 0))), ((o 21), .inl (k 0, 12, .inl (fun _ => 0))), ((o 22), .inl (k 0, 4, .inl (fun _ => 0))), ((o 23), .inl (k 0, 42, .inl (fun _ => 0))), ((o 24), .inl (k 0, 42, .inl (fun _ => 0))), ((o 25), .inl (k 0, 42, .inl (fun _ => 0))), ((o 0), .inr (10, [.ref (o 1), .ref (o 2), .ref (o 3), .ref (o 4), .ref (o 5), .ref (o 6), .ref (o 7), .ref (o 8), .ref (o 9), .ref (o 10), .ref (o 11), .ref (o 12), .ref (o 13), .ref (o 14)])), ((o 3), .inr (2, [.int 0, .int 0, .int 0, .int 0, .int 0, .int 0, .int 0, .int 0, .int 0, .ref (o 26), .ref (o 27), .ref (o 28), .ref (o 29), .ref (o 30), .ref (o 31), .ref (o 32), .ref (o 33), .ref (o 34), .ref (o 35)])), ((o 4), .inr (3, [.ref (o 69), .ref (o 70), .ref (o 71)])), ((o 69), .inl (k 0, 17, .inl (u_7 0))), ((o 70), .inl (k 0, 17, .inl (u_7 1))), ((o 71), .inl (k 0, 17, .inl (u_7 2))), ((o 5), .inr (1, [.ref (o 3), .ref (o 4), .int 0, .int 0, .int 0, .int 0, .int 0, .ref (o 72)])), ((o 72), .inl (k 0, 17, .inl (u_7 3))), ((o 8), .inr (8, [.ref (o 3), .ref (o 4), .ref (o 6), .ref (o 74), .ref (o 75), .ref (o 76)])), ((o 74), .inl (k 0, 3, .inl (u_7 4))), ((o 76), .inl (k 3, 3, .inl (u_7 5))), ((o 9), .inr (0, [.ref (o 3), .ref (o 6), .int (-2), .int 0]))] H := hP
  have hD : va_D A [((o 1), .inr (4, [.ref (o 15), .int 0, .int 0, .int (-1), .int 0, .int 0, .int 0, .int 0, .int 0])), ((o 26), .inl (k 0, 12, .inl (u_5 0))), ((o 27), .inl (k 0, 12, .inl (u_5 1))), ((o 28), .inl (k 0, 12, .inl (u_5 2))), ((o 29), .inl (k 0, 12, .inl (u_5 3))), ((o 30), .inl (k 0, 12, .inl (u_5 4))), ((o 31), .inl (k 0, 12, .inl (u_5 5))), ((o 32), .inl (k 0, 4, .inl (u_5 6))), ((o 33), .inl (k 0, 42, .inl (u_5 7))), ((o 34), .inl (k 0, 42, .inl (u_5 8))), ((o 35), .inl (k 0, 42, .inl (u_5 9))), ((o 2), .inr (2, [.int 0, .int 0, .int 0, .int 0, .int 0, .int 0, .int 0, .int 0, .int 0, .ref (o 16), .ref (o 17), .ref (o 18), .ref (o 19), .ref (o 20), .ref (o 21), .ref (o 22), .ref (o 23), .ref (o 24), .ref (o 25)])), ((o 16), .inl (k 0, 12, .inl (fun _ => 0))), ((o 17), .inl (k 0, 12, .inl (fun _ => 0))), ((o 18), .inl (k 0, 12, .inl (fun _ => 0))), ((o 19), .inl (k 0, 12, .inl (fun _ => 0))), ((o 20), .inl (k 0, 12, .inl (fun _ => 0))), ((o 21), .inl (k 0, 12, .inl (fun _ => 0))), ((o 22), .inl (k 0, 4, .inl (fun _ => 0))), ((o 23), .inl (k 0, 42, .inl (fun _ => 0))), ((o 24), .inl (k 0, 42, .inl (fun _ => 0))), ((o 25), .inl (k 0, 42, .inl (fun _ => 0))), ((o 0), .inr (10, [.ref (o 1), .ref (o 2), .ref (o 3), .ref (o 4), .ref (o 5), .ref (o 6), .ref (o 7), .ref (o 8), .ref (o 9), .ref (o 10), .ref (o 11), .ref (o 12), .ref (o 13), .ref (o 14)])), ((o 3), .inr (2, [.int 0, .int 0, .int 0, .int 0, .int 0, .int 0, .int 0, .int 0, .int 0, .ref (o 26), .ref (o 27), .ref (o 28), .ref (o 29), .ref (o 30), .ref (o 31), .ref (o 32), .ref (o 33), .ref (o 34), .ref (o 35)])), ((o 4), .inr (3, [.ref (o 69), .ref (o 70), .ref (o 71)])), ((o 69), .inl (k 0, 17, .inl (u_7 0))), ((o 70), .inl (k 0, 17, .inl (u_7 1))), ((o 71), .inl (k 0, 17, .inl (u_7 2))), ((o 5), .inr (1, [.ref (o 3), .ref (o 4), .int 0, .int 0, .int 0, .int 0, .int 0, .ref (o 72)])), ((o 72), .inl (k 0, 17, .inl (u_7 3))), ((o 8), .inr (8, [.ref (o 3), .ref (o 4), .ref (o 6), .ref (o 74), .ref (o 75), .ref (o 76)])), ((o 74), .inl (k 0, 3, .inl (u_7 4))), ((o 76), .inl (k 3, 3, .inl (u_7 5))), ((o 9), .inr (0, [.ref (o 3), .ref (o 6), .int (-2), .int 0]))] := hD
  refine lv_aload_n hx hb dX10_garden_40 rfl (lv_at hl 0 rfl) ?_
  refine x_get S hK hP 22 rfl cfX10 2 lkX10_23 (by decide) rfl dX10_garden_41 ?_
  refine x_get S hK hP 23 rfl cfX2 0 lkX10_126 (by decide) rfl dX10_garden_44 ?_
  exact x_reti S hr hlk hQ hS () rfl (x_B P_nil D_nil) dX10_garden_47
