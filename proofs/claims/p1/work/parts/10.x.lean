theorem dX10_isView_0 : decode cX10_isView 0 = .ok (.iload_n 0, 1) := by decide +kernel
theorem dX10_isView_1 : decode cX10_isView 1 = .ok (.iconst 1, 1) := by decide +kernel
theorem dX10_isView_2 : decode cX10_isView 2 = .ok (.if_icmp .eq 8, 3) := by decide +kernel
theorem dX10_isView_5 : decode cX10_isView 5 = .ok (.iload_n 0, 1) := by decide +kernel
theorem dX10_isView_6 : decode cX10_isView 6 = .ok (.iconst 2, 1) := by decide +kernel
theorem dX10_isView_7 : decode cX10_isView 7 = .ok (.if_icmp .ne 7, 3) := by decide +kernel
theorem dX10_isView_10 : decode cX10_isView 10 = .ok (.iconst 1, 1) := by decide +kernel
theorem dX10_isView_11 : decode cX10_isView 11 = .ok (.goto 4, 3) := by decide +kernel
theorem dX10_isView_14 : decode cX10_isView 14 = .ok (.iconst 0, 1) := by decide +kernel
theorem dX10_isView_15 : decode cX10_isView 15 = .ok (.ireturn, 1) := by decide +kernel
theorem dX10_isAnyView_0 : decode cX10_isAnyView 0 = .ok (.iload_n 0, 1) := by decide +kernel
theorem dX10_isAnyView_1 : decode cX10_isAnyView 1 = .ok (.ifCond .lt 12, 3) := by decide +kernel
theorem dX10_isAnyView_4 : decode cX10_isAnyView 4 = .ok (.iload_n 0, 1) := by decide +kernel
theorem dX10_isAnyView_5 : decode cX10_isAnyView 5 = .ok (.iconst 2, 1) := by decide +kernel
theorem dX10_isAnyView_6 : decode cX10_isAnyView 6 = .ok (.if_icmp .gt 7, 3) := by decide +kernel
theorem dX10_isAnyView_9 : decode cX10_isAnyView 9 = .ok (.iconst 1, 1) := by decide +kernel
theorem dX10_isAnyView_10 : decode cX10_isAnyView 10 = .ok (.goto 4, 3) := by decide +kernel
theorem dX10_isAnyView_13 : decode cX10_isAnyView 13 = .ok (.iconst 0, 1) := by decide +kernel
theorem dX10_isAnyView_14 : decode cX10_isAnyView 14 = .ok (.ireturn, 1) := by decide +kernel
theorem dX10_isPart_0 : decode cX10_isPart 0 = .ok (.iload_n 0, 1) := by decide +kernel
theorem dX10_isPart_1 : decode cX10_isPart 1 = .ok (.ifCond .eq 8, 3) := by decide +kernel
theorem dX10_isPart_4 : decode cX10_isPart 4 = .ok (.iload_n 0, 1) := by decide +kernel
theorem dX10_isPart_5 : decode cX10_isPart 5 = .ok (.iconst 1, 1) := by decide +kernel
theorem dX10_isPart_6 : decode cX10_isPart 6 = .ok (.if_icmp .ne 7, 3) := by decide +kernel
theorem dX10_isPart_9 : decode cX10_isPart 9 = .ok (.iconst 1, 1) := by decide +kernel
theorem dX10_isPart_10 : decode cX10_isPart 10 = .ok (.goto 4, 3) := by decide +kernel
theorem dX10_isPart_13 : decode cX10_isPart 13 = .ok (.iconst 0, 1) := by decide +kernel
theorem dX10_isPart_14 : decode cX10_isPart 14 = .ok (.ireturn, 1) := by decide +kernel
theorem dX10_isSeed_0 : decode cX10_isSeed 0 = .ok (.iload_n 0, 1) := by decide +kernel
theorem dX10_isSeed_1 : decode cX10_isSeed 1 = .ok (.ifCond .lt 14, 3) := by decide +kernel
theorem dX10_isSeed_4 : decode cX10_isSeed 4 = .ok (.iload_n 0, 1) := by decide +kernel
theorem dX10_isSeed_5 : decode cX10_isSeed 5 = .ok (.ldc_w 468, 3) := by decide +kernel
theorem dX10_isSeed_8 : decode cX10_isSeed 8 = .ok (.if_icmp .gt 7, 3) := by decide +kernel
theorem dX10_isSeed_11 : decode cX10_isSeed 11 = .ok (.iconst 1, 1) := by decide +kernel
theorem dX10_isSeed_12 : decode cX10_isSeed 12 = .ok (.goto 4, 3) := by decide +kernel
theorem dX10_isSeed_15 : decode cX10_isSeed 15 = .ok (.iconst 0, 1) := by decide +kernel
theorem dX10_isSeed_16 : decode cX10_isSeed 16 = .ok (.ireturn, 1) := by decide +kernel
theorem dX10_isSlot_0 : decode cX10_isSlot 0 = .ok (.iload_n 0, 1) := by decide +kernel
theorem dX10_isSlot_1 : decode cX10_isSlot 1 = .ok (.ifCond .lt 12, 3) := by decide +kernel
theorem dX10_isSlot_4 : decode cX10_isSlot 4 = .ok (.iload_n 0, 1) := by decide +kernel
theorem dX10_isSlot_5 : decode cX10_isSlot 5 = .ok (.iconst 4, 1) := by decide +kernel
theorem dX10_isSlot_6 : decode cX10_isSlot 6 = .ok (.if_icmp .ge 7, 3) := by decide +kernel
theorem dX10_isSlot_9 : decode cX10_isSlot 9 = .ok (.iconst 1, 1) := by decide +kernel
theorem dX10_isSlot_10 : decode cX10_isSlot 10 = .ok (.goto 4, 3) := by decide +kernel
theorem dX10_isSlot_13 : decode cX10_isSlot 13 = .ok (.iconst 0, 1) := by decide +kernel
theorem dX10_isSlot_14 : decode cX10_isSlot 14 = .ok (.ireturn, 1) := by decide +kernel
theorem dX10_isGarden_0 : decode cX10_isGarden 0 = .ok (.aload_n 0, 1) := by decide +kernel
theorem dX10_isGarden_1 : decode cX10_isGarden 1 = .ok (.getfield 23, 3) := by decide +kernel
theorem dX10_isGarden_4 : decode cX10_isGarden 4 = .ok (.getfield 126, 3) := by decide +kernel
theorem dX10_isGarden_7 : decode cX10_isGarden 7 = .ok (.ifCond .le 7, 3) := by decide +kernel
theorem dX10_isGarden_10 : decode cX10_isGarden 10 = .ok (.iconst 1, 1) := by decide +kernel
theorem dX10_isGarden_11 : decode cX10_isGarden 11 = .ok (.goto 4, 3) := by decide +kernel
theorem dX10_isGarden_14 : decode cX10_isGarden 14 = .ok (.iconst 0, 1) := by decide +kernel
theorem dX10_isGarden_15 : decode cX10_isGarden 15 = .ok (.ireturn, 1) := by decide +kernel
theorem dX10_isHead_0 : decode cX10_isHead 0 = .ok (.iload_n 1, 1) := by decide +kernel
theorem dX10_isHead_1 : decode cX10_isHead 1 = .ok (.ifCond .lt 18, 3) := by decide +kernel
theorem dX10_isHead_4 : decode cX10_isHead 4 = .ok (.iload_n 1, 1) := by decide +kernel
theorem dX10_isHead_5 : decode cX10_isHead 5 = .ok (.aload_n 0, 1) := by decide +kernel
theorem dX10_isHead_6 : decode cX10_isHead 6 = .ok (.getfield 23, 3) := by decide +kernel
theorem dX10_isHead_9 : decode cX10_isHead 9 = .ok (.getfield 296, 3) := by decide +kernel
theorem dX10_isHead_12 : decode cX10_isHead 12 = .ok (.if_icmp .ge 7, 3) := by decide +kernel
theorem dX10_isHead_15 : decode cX10_isHead 15 = .ok (.iconst 1, 1) := by decide +kernel
theorem dX10_isHead_16 : decode cX10_isHead 16 = .ok (.goto 4, 3) := by decide +kernel
theorem dX10_isHead_19 : decode cX10_isHead 19 = .ok (.iconst 0, 1) := by decide +kernel
theorem dX10_isHead_20 : decode cX10_isHead 20 = .ok (.ireturn, 1) := by decide +kernel
theorem dX10_isRow_0 : decode cX10_isRow 0 = .ok (.iload_n 1, 1) := by decide +kernel
theorem dX10_isRow_1 : decode cX10_isRow 1 = .ok (.ifCond .lt 18, 3) := by decide +kernel
theorem dX10_isRow_4 : decode cX10_isRow 4 = .ok (.iload_n 1, 1) := by decide +kernel
theorem dX10_isRow_5 : decode cX10_isRow 5 = .ok (.aload_n 0, 1) := by decide +kernel
theorem dX10_isRow_6 : decode cX10_isRow 6 = .ok (.getfield 23, 3) := by decide +kernel
theorem dX10_isRow_9 : decode cX10_isRow 9 = .ok (.getfield 423, 3) := by decide +kernel
theorem dX10_isRow_12 : decode cX10_isRow 12 = .ok (.if_icmp .ge 7, 3) := by decide +kernel
theorem dX10_isRow_15 : decode cX10_isRow 15 = .ok (.iconst 1, 1) := by decide +kernel
theorem dX10_isRow_16 : decode cX10_isRow 16 = .ok (.goto 4, 3) := by decide +kernel
theorem dX10_isRow_19 : decode cX10_isRow 19 = .ok (.iconst 0, 1) := by decide +kernel
theorem dX10_isRow_20 : decode cX10_isRow 20 = .ok (.ireturn, 1) := by decide +kernel
theorem dX10_isHour_0 : decode cX10_isHour 0 = .ok (.aload_n 0, 1) := by decide +kernel
theorem dX10_isHour_1 : decode cX10_isHour 1 = .ok (.invokevirtual 196, 3) := by decide +kernel
theorem dX10_isHour_4 : decode cX10_isHour 4 = .ok (.ifCond .eq 22, 3) := by decide +kernel
theorem dX10_isHour_7 : decode cX10_isHour 7 = .ok (.iload_n 1, 1) := by decide +kernel
theorem dX10_isHour_8 : decode cX10_isHour 8 = .ok (.ifCond .lt 18, 3) := by decide +kernel
theorem dX10_isHour_11 : decode cX10_isHour 11 = .ok (.iload_n 1, 1) := by decide +kernel
theorem dX10_isHour_12 : decode cX10_isHour 12 = .ok (.aload_n 0, 1) := by decide +kernel
theorem dX10_isHour_13 : decode cX10_isHour 13 = .ok (.getfield 23, 3) := by decide +kernel
theorem dX10_isHour_16 : decode cX10_isHour 16 = .ok (.getfield 401, 3) := by decide +kernel
theorem dX10_isHour_19 : decode cX10_isHour 19 = .ok (.if_icmp .gt 7, 3) := by decide +kernel
theorem dX10_isHour_22 : decode cX10_isHour 22 = .ok (.iconst 1, 1) := by decide +kernel
theorem dX10_isHour_23 : decode cX10_isHour 23 = .ok (.goto 4, 3) := by decide +kernel
theorem dX10_isHour_26 : decode cX10_isHour 26 = .ok (.iconst 0, 1) := by decide +kernel
theorem dX10_isHour_27 : decode cX10_isHour 27 = .ok (.ireturn, 1) := by decide +kernel
theorem dX10_isWetHour_0 : decode cX10_isWetHour 0 = .ok (.aload_n 0, 1) := by decide +kernel
theorem dX10_isWetHour_1 : decode cX10_isWetHour 1 = .ok (.iload_n 1, 1) := by decide +kernel
theorem dX10_isWetHour_2 : decode cX10_isWetHour 2 = .ok (.invokevirtual 161, 3) := by decide +kernel
theorem dX10_isWetHour_5 : decode cX10_isWetHour 5 = .ok (.ifCond .eq 24, 3) := by decide +kernel
theorem dX10_isWetHour_8 : decode cX10_isWetHour 8 = .ok (.iload_n 1, 1) := by decide +kernel
theorem dX10_isWetHour_9 : decode cX10_isWetHour 9 = .ok (.bipush 7, 2) := by decide +kernel
theorem dX10_isWetHour_11 : decode cX10_isWetHour 11 = .ok (.if_icmp .gt 18, 3) := by decide +kernel
theorem dX10_isWetHour_14 : decode cX10_isWetHour 14 = .ok (.iload_n 1, 1) := by decide +kernel
theorem dX10_isWetHour_15 : decode cX10_isWetHour 15 = .ok (.aload_n 0, 1) := by decide +kernel
theorem dX10_isWetHour_16 : decode cX10_isWetHour 16 = .ok (.getfield 23, 3) := by decide +kernel
theorem dX10_isWetHour_19 : decode cX10_isWetHour 19 = .ok (.getfield 401, 3) := by decide +kernel
theorem dX10_isWetHour_22 : decode cX10_isWetHour 22 = .ok (.if_icmp .ge 7, 3) := by decide +kernel
theorem dX10_isWetHour_25 : decode cX10_isWetHour 25 = .ok (.iconst 1, 1) := by decide +kernel
theorem dX10_isWetHour_26 : decode cX10_isWetHour 26 = .ok (.goto 4, 3) := by decide +kernel
theorem dX10_isWetHour_29 : decode cX10_isWetHour 29 = .ok (.iconst 0, 1) := by decide +kernel
theorem dX10_isWetHour_30 : decode cX10_isWetHour 30 = .ok (.ireturn, 1) := by decide +kernel
theorem dX10_isPair_0 : decode cX10_isPair 0 = .ok (.aload_n 0, 1) := by decide +kernel
theorem dX10_isPair_1 : decode cX10_isPair 1 = .ok (.iload_n 1, 1) := by decide +kernel
theorem dX10_isPair_2 : decode cX10_isPair 2 = .ok (.invokevirtual 135, 3) := by decide +kernel
theorem dX10_isPair_5 : decode cX10_isPair 5 = .ok (.ifCond .eq 20, 3) := by decide +kernel
theorem dX10_isPair_8 : decode cX10_isPair 8 = .ok (.aload_n 0, 1) := by decide +kernel
theorem dX10_isPair_9 : decode cX10_isPair 9 = .ok (.iload_n 2, 1) := by decide +kernel
theorem dX10_isPair_10 : decode cX10_isPair 10 = .ok (.invokevirtual 135, 3) := by decide +kernel
theorem dX10_isPair_13 : decode cX10_isPair 13 = .ok (.ifCond .eq 12, 3) := by decide +kernel
theorem dX10_isPair_16 : decode cX10_isPair 16 = .ok (.iload_n 1, 1) := by decide +kernel
theorem dX10_isPair_17 : decode cX10_isPair 17 = .ok (.iload_n 2, 1) := by decide +kernel
theorem dX10_isPair_18 : decode cX10_isPair 18 = .ok (.if_icmp .eq 7, 3) := by decide +kernel
theorem dX10_isPair_21 : decode cX10_isPair 21 = .ok (.iconst 1, 1) := by decide +kernel
theorem dX10_isPair_22 : decode cX10_isPair 22 = .ok (.goto 4, 3) := by decide +kernel
theorem dX10_isPair_25 : decode cX10_isPair 25 = .ok (.iconst 0, 1) := by decide +kernel
theorem dX10_isPair_26 : decode cX10_isPair 26 = .ok (.ireturn, 1) := by decide +kernel
theorem dX10_refusalOfSeen_0 : decode cX10_refusalOfSeen 0 = .ok (.iload_n 1, 1) := by decide +kernel
theorem dX10_refusalOfSeen_1 : decode cX10_refusalOfSeen 1 = .ok (.invokestatic 435, 3) := by decide +kernel
theorem dX10_refusalOfSeen_4 : decode cX10_refusalOfSeen 4 = .ok (.ifCond .eq 10, 3) := by decide +kernel
theorem dX10_refusalOfSeen_7 : decode cX10_refusalOfSeen 7 = .ok (.aload_n 0, 1) := by decide +kernel
theorem dX10_refusalOfSeen_8 : decode cX10_refusalOfSeen 8 = .ok (.invokevirtual 196, 3) := by decide +kernel
theorem dX10_refusalOfSeen_11 : decode cX10_refusalOfSeen 11 = .ok (.ifCond .ne 6, 3) := by decide +kernel
theorem dX10_refusalOfSeen_14 : decode cX10_refusalOfSeen 14 = .ok (.bipush (-2), 2) := by decide +kernel
theorem dX10_refusalOfSeen_16 : decode cX10_refusalOfSeen 16 = .ok (.ireturn, 1) := by decide +kernel
theorem dX10_refusalOfSeen_17 : decode cX10_refusalOfSeen 17 = .ok (.aload_n 0, 1) := by decide +kernel
theorem dX10_refusalOfSeen_18 : decode cX10_refusalOfSeen 18 = .ok (.getfield 73, 3) := by decide +kernel
theorem dX10_refusalOfSeen_21 : decode cX10_refusalOfSeen 21 = .ok (.iload_n 1, 1) := by decide +kernel
theorem dX10_refusalOfSeen_22 : decode cX10_refusalOfSeen 22 = .ok (.invokevirtual 441, 3) := by decide +kernel
theorem dX10_refusalOfSeen_25 : decode cX10_refusalOfSeen 25 = .ok (.ifCond .eq 6, 3) := by decide +kernel
theorem dX10_refusalOfSeen_28 : decode cX10_refusalOfSeen 28 = .ok (.bipush (-6), 2) := by decide +kernel
theorem dX10_refusalOfSeen_30 : decode cX10_refusalOfSeen 30 = .ok (.ireturn, 1) := by decide +kernel
theorem dX10_refusalOfSeen_31 : decode cX10_refusalOfSeen 31 = .ok (.aload_n 0, 1) := by decide +kernel
theorem dX10_refusalOfSeen_32 : decode cX10_refusalOfSeen 32 = .ok (.getfield 82, 3) := by decide +kernel
theorem dX10_refusalOfSeen_35 : decode cX10_refusalOfSeen 35 = .ok (.iload_n 1, 1) := by decide +kernel
theorem dX10_refusalOfSeen_36 : decode cX10_refusalOfSeen 36 = .ok (.invokevirtual 469, 3) := by decide +kernel
theorem dX10_refusalOfSeen_39 : decode cX10_refusalOfSeen 39 = .ok (.ifCond .eq 7, 3) := by decide +kernel
theorem dX10_refusalOfSeen_42 : decode cX10_refusalOfSeen 42 = .ok (.iconst 0, 1) := by decide +kernel
theorem dX10_refusalOfSeen_43 : decode cX10_refusalOfSeen 43 = .ok (.goto 5, 3) := by decide +kernel
theorem dX10_refusalOfSeen_46 : decode cX10_refusalOfSeen 46 = .ok (.bipush (-2), 2) := by decide +kernel
theorem dX10_refusalOfSeen_48 : decode cX10_refusalOfSeen 48 = .ok (.ireturn, 1) := by decide +kernel

set_option maxHeartbeats 4000000 in
set_option maxRecDepth 100000 in
theorem ctX10_isView (l : Launch) (D : va_G) (k : Nat → ClassId) (p0 : Int32)  : RO l yX10_isView cX10_isView 1 (some .boolean) 0 D k [.int p0] [] (Qi (fun r : Int32 => True)) := by
  refine RO.of (by decide) (Nat.le_of_ble_eq_true rfl) ?_
  intro p e s m below meth c ls A args Q S hr hlk hQ hK hP hDW hA hS hl
  have hx := S.1
  have hb := S.2.1
  have hl : lv_has ls 1 [(0, .int p0)] := hl
  refine lv_iload_n hx hb dX10_isView_0 rfl (lv_at hl 0 rfl) ?_
  refine lv_iconst (v := 1) hx hb dX10_isView_1 (by decide) ?_
  refine lv_icmp_eq (tgt := 10) hx hb dX10_isView_2 (by decide) (fun c_1 => ?_) (fun c_1 => ?_)
  · skip
    refine lv_iconst (v := 1) hx hb dX10_isView_10 (by decide) ?_
    refine lv_goto (tgt := 15) hx hb dX10_isView_11 (by decide) ?_
    exact x_retz S hr hlk hQ hS rfl () trivial x_T dX10_isView_15
  · skip
    refine lv_iload_n hx hb dX10_isView_5 rfl (lv_at hl 0 rfl) ?_
    refine lv_iconst (v := 2) hx hb dX10_isView_6 (by decide) ?_
    refine lv_icmp_ne (tgt := 14) hx hb dX10_isView_7 (by decide) (fun c_2 => ?_) (fun c_2 => ?_)
    · skip
      refine lv_iconst (v := 0) hx hb dX10_isView_14 (by decide) ?_
      exact x_retz S hr hlk hQ hS rfl () trivial x_T dX10_isView_15
    · skip
      refine lv_iconst (v := 1) hx hb dX10_isView_10 (by decide) ?_
      refine lv_goto (tgt := 15) hx hb dX10_isView_11 (by decide) ?_
      exact x_retz S hr hlk hQ hS rfl () trivial x_T dX10_isView_15

set_option maxHeartbeats 4000000 in
set_option maxRecDepth 100000 in
theorem ctX10_isAnyView (l : Launch) (D : va_G) (k : Nat → ClassId) (p0 : Int32)  : RO l yX10_isAnyView cX10_isAnyView 1 (some .boolean) 0 D k [.int p0] [] (Qi (fun r : Int32 => True)) := by
  refine RO.of (by decide) (Nat.le_of_ble_eq_true rfl) ?_
  intro p e s m below meth c ls A args Q S hr hlk hQ hK hP hDW hA hS hl
  have hx := S.1
  have hb := S.2.1
  have hl : lv_has ls 1 [(0, .int p0)] := hl
  refine lv_iload_n hx hb dX10_isAnyView_0 rfl (lv_at hl 0 rfl) ?_
  refine lv_if_lt (tgt := 13) hx hb dX10_isAnyView_1 (by decide) (fun c_1 => ?_) (fun c_1 => ?_)
  · skip
    refine lv_iconst (v := 0) hx hb dX10_isAnyView_13 (by decide) ?_
    exact x_retz S hr hlk hQ hS rfl () trivial x_T dX10_isAnyView_14
  · skip
    refine lv_iload_n hx hb dX10_isAnyView_4 rfl (lv_at hl 0 rfl) ?_
    refine lv_iconst (v := 2) hx hb dX10_isAnyView_5 (by decide) ?_
    refine lv_icmp_gt (tgt := 13) hx hb dX10_isAnyView_6 (by decide) (fun c_2 => ?_) (fun c_2 => ?_)
    · skip
      refine lv_iconst (v := 0) hx hb dX10_isAnyView_13 (by decide) ?_
      exact x_retz S hr hlk hQ hS rfl () trivial x_T dX10_isAnyView_14
    · skip
      refine lv_iconst (v := 1) hx hb dX10_isAnyView_9 (by decide) ?_
      refine lv_goto (tgt := 14) hx hb dX10_isAnyView_10 (by decide) ?_
      exact x_retz S hr hlk hQ hS rfl () trivial x_T dX10_isAnyView_14

set_option maxHeartbeats 4000000 in
set_option maxRecDepth 100000 in
theorem ctX10_isPart (l : Launch) (D : va_G) (k : Nat → ClassId) (p0 : Int32)  : RO l yX10_isPart cX10_isPart 1 (some .boolean) 0 D k [.int p0] [] (Qi (fun r : Int32 => True)) := by
  refine RO.of (by decide) (Nat.le_of_ble_eq_true rfl) ?_
  intro p e s m below meth c ls A args Q S hr hlk hQ hK hP hDW hA hS hl
  have hx := S.1
  have hb := S.2.1
  have hl : lv_has ls 1 [(0, .int p0)] := hl
  refine lv_iload_n hx hb dX10_isPart_0 rfl (lv_at hl 0 rfl) ?_
  refine lv_if_eq (tgt := 9) hx hb dX10_isPart_1 (by decide) (fun c_1 => ?_) (fun c_1 => ?_)
  · skip
    refine lv_iconst (v := 1) hx hb dX10_isPart_9 (by decide) ?_
    refine lv_goto (tgt := 14) hx hb dX10_isPart_10 (by decide) ?_
    exact x_retz S hr hlk hQ hS rfl () trivial x_T dX10_isPart_14
  · skip
    refine lv_iload_n hx hb dX10_isPart_4 rfl (lv_at hl 0 rfl) ?_
    refine lv_iconst (v := 1) hx hb dX10_isPart_5 (by decide) ?_
    refine lv_icmp_ne (tgt := 13) hx hb dX10_isPart_6 (by decide) (fun c_2 => ?_) (fun c_2 => ?_)
    · skip
      refine lv_iconst (v := 0) hx hb dX10_isPart_13 (by decide) ?_
      exact x_retz S hr hlk hQ hS rfl () trivial x_T dX10_isPart_14
    · skip
      refine lv_iconst (v := 1) hx hb dX10_isPart_9 (by decide) ?_
      refine lv_goto (tgt := 14) hx hb dX10_isPart_10 (by decide) ?_
      exact x_retz S hr hlk hQ hS rfl () trivial x_T dX10_isPart_14

set_option maxHeartbeats 4000000 in
set_option maxRecDepth 100000 in
theorem ctX10_isSeed (l : Launch) (D : va_G) (k : Nat → ClassId) (p0 : Int32)  : RO l yX10_isSeed cX10_isSeed 1 (some .boolean) 0 D k [.int p0] [] (Qi (fun r : Int32 => True)) := by
  refine RO.of (by decide) (Nat.le_of_ble_eq_true rfl) ?_
  intro p e s m below meth c ls A args Q S hr hlk hQ hK hP hDW hA hS hl
  have hx := S.1
  have hb := S.2.1
  have hl : lv_has ls 1 [(0, .int p0)] := hl
  refine lv_iload_n hx hb dX10_isSeed_0 rfl (lv_at hl 0 rfl) ?_
  refine lv_if_lt (tgt := 15) hx hb dX10_isSeed_1 (by decide) (fun c_1 => ?_) (fun c_1 => ?_)
  · skip
    refine lv_iconst (v := 0) hx hb dX10_isSeed_15 (by decide) ?_
    exact x_retz S hr hlk hQ hS rfl () trivial x_T dX10_isSeed_16
  · skip
    refine lv_iload_n hx hb dX10_isSeed_4 rfl (lv_at hl 0 rfl) ?_
    refine lv_ldcw hx hb S.2.2.2.1 (S.2.2.2.2 _ lkX10_468) dX10_isSeed_5 ?_
    refine lv_icmp_gt (tgt := 15) hx hb dX10_isSeed_8 (by decide) (fun c_2 => ?_) (fun c_2 => ?_)
    · skip
      refine lv_iconst (v := 0) hx hb dX10_isSeed_15 (by decide) ?_
      exact x_retz S hr hlk hQ hS rfl () trivial x_T dX10_isSeed_16
    · skip
      refine lv_iconst (v := 1) hx hb dX10_isSeed_11 (by decide) ?_
      refine lv_goto (tgt := 16) hx hb dX10_isSeed_12 (by decide) ?_
      exact x_retz S hr hlk hQ hS rfl () trivial x_T dX10_isSeed_16

theorem lfctX10_isSlot_0 (p0 : Int32) (c_1 : p0 < 0) : 0 = (bo (0 ≤ p0 ∧ p0 < 4)) := (by
  simp only [bo]
  repeat' split
  all_goals first | rfl | assumption | (exfalso; simp only [fa_lt, fa_le, fa_eq, fa_lt64, fa_le64, fa_eq64, Int32.toInt_toInt64, tz_0, tz_1, tz_2, tz_3, tz_4, tz_5, tz_6, tz_7, tz_8, tz_9, tz_10, tz_60, tz_m1, tl_0, tl_1, tl_2, tl_3, tl_4, tl_5, tl_6, tl_7, tl_8, tl_9, tl_10, tl_60, tl_m1] at * <;> omega))
theorem lfctX10_isSlot_1 (p0 : Int32) (c_1 : ¬ p0 < 0) (c_2 : 4 ≤ p0) : 0 = (bo (0 ≤ p0 ∧ p0 < 4)) := (by
  simp only [bo]
  repeat' split
  all_goals first | rfl | assumption | (exfalso; simp only [fa_lt, fa_le, fa_eq, fa_lt64, fa_le64, fa_eq64, Int32.toInt_toInt64, tz_0, tz_1, tz_2, tz_3, tz_4, tz_5, tz_6, tz_7, tz_8, tz_9, tz_10, tz_60, tz_m1, tl_0, tl_1, tl_2, tl_3, tl_4, tl_5, tl_6, tl_7, tl_8, tl_9, tl_10, tl_60, tl_m1] at * <;> omega))
theorem lfctX10_isSlot_2 (p0 : Int32) (c_1 : ¬ p0 < 0) (c_2 : ¬ 4 ≤ p0) : 1 = (bo (0 ≤ p0 ∧ p0 < 4)) := (by
  simp only [bo]
  repeat' split
  all_goals first | rfl | assumption | (exfalso; simp only [fa_lt, fa_le, fa_eq, fa_lt64, fa_le64, fa_eq64, Int32.toInt_toInt64, tz_0, tz_1, tz_2, tz_3, tz_4, tz_5, tz_6, tz_7, tz_8, tz_9, tz_10, tz_60, tz_m1, tl_0, tl_1, tl_2, tl_3, tl_4, tl_5, tl_6, tl_7, tl_8, tl_9, tl_10, tl_60, tl_m1] at * <;> omega))
set_option maxHeartbeats 4000000 in
set_option maxRecDepth 100000 in
theorem ctX10_isSlot (l : Launch) (D : va_G) (k : Nat → ClassId) (p0 : Int32)  : RO l yX10_isSlot cX10_isSlot 1 (some .boolean) 0 D k [.int p0] [] (Qi (fun r : Int32 => r = (bo (0 ≤ p0 ∧ p0 < 4)))) := by
  refine RO.of (by decide) (Nat.le_of_ble_eq_true rfl) ?_
  intro p e s m below meth c ls A args Q S hr hlk hQ hK hP hDW hA hS hl
  have hx := S.1
  have hb := S.2.1
  have hl : lv_has ls 1 [(0, .int p0)] := hl
  refine lv_iload_n hx hb dX10_isSlot_0 rfl (lv_at hl 0 rfl) ?_
  refine lv_if_lt (tgt := 13) hx hb dX10_isSlot_1 (by decide) (fun c_1 => ?_) (fun c_1 => ?_)
  · skip
    refine lv_iconst (v := 0) hx hb dX10_isSlot_13 (by decide) ?_
    exact x_retz S hr hlk hQ hS rfl () (lfctX10_isSlot_0 p0 c_1) x_T dX10_isSlot_14
  · skip
    refine lv_iload_n hx hb dX10_isSlot_4 rfl (lv_at hl 0 rfl) ?_
    refine lv_iconst (v := 4) hx hb dX10_isSlot_5 (by decide) ?_
    refine lv_icmp_ge (tgt := 13) hx hb dX10_isSlot_6 (by decide) (fun c_2 => ?_) (fun c_2 => ?_)
    · skip
      refine lv_iconst (v := 0) hx hb dX10_isSlot_13 (by decide) ?_
      exact x_retz S hr hlk hQ hS rfl () (lfctX10_isSlot_1 p0 c_1 c_2) x_T dX10_isSlot_14
    · skip
      refine lv_iconst (v := 1) hx hb dX10_isSlot_9 (by decide) ?_
      refine lv_goto (tgt := 14) hx hb dX10_isSlot_10 (by decide) ?_
      exact x_retz S hr hlk hQ hS rfl () (lfctX10_isSlot_2 p0 c_1 c_2) x_T dX10_isSlot_14

set_option maxHeartbeats 4000000 in
set_option maxRecDepth 100000 in
theorem ctX10_isGarden (l : Launch) (D : va_G) (k : Nat → ClassId) (o : Nat → Nat)  : RO l yX10_isGarden cX10_isGarden 1 (some .boolean) 0 D k [.ref (o 0)] [((o 0), .inr (10, [.ref (o 1), .ref (o 2), .ref (o 3), .ref (o 4), .ref (o 5), .ref (o 6), .ref (o 7), .ref (o 8), .ref (o 9), .ref (o 10), .ref (o 11), .ref (o 12), .ref (o 13), .ref (o 14)])), ((o 3), .inr (2, [.int 0, .int 0, .int 0, .int 0, .int 0, .int 0, .int 0, .int 0, .int 0, .ref (o 26), .ref (o 27), .ref (o 28), .ref (o 29), .ref (o 30), .ref (o 31), .ref (o 32), .ref (o 33), .ref (o 34), .ref (o 35)]))] (Qi (fun r : Int32 => r = 0)) := by
  refine RO.of (by decide) (Nat.le_of_ble_eq_true rfl) ?_
  intro p e s m below meth c ls A args Q S hr hlk hQ hK hP hDW hA hS hl
  have hx := S.1
  have hb := S.2.1
  have hl : lv_has ls 1 [(0, .ref (o 0))] := hl
  refine lv_aload_n hx hb dX10_isGarden_0 rfl (lv_at hl 0 rfl) ?_
  refine x_get S hK hP 0 rfl cfX10 2 lkX10_23 (by decide) rfl dX10_isGarden_1 ?_
  refine x_get S hK hP 1 rfl cfX2 0 lkX10_126 (by decide) rfl dX10_isGarden_4 ?_
  refine lv_if_le (tgt := 14) hx hb dX10_isGarden_7 (by decide) (fun c_1 => ?_) (fun c_1 => absurd (by decide) c_1)
  refine lv_iconst (v := 0) hx hb dX10_isGarden_14 (by decide) ?_
  exact x_retz S hr hlk hQ hS rfl () rfl x_T dX10_isGarden_15

set_option maxHeartbeats 4000000 in
set_option maxRecDepth 100000 in
theorem ctX10_isHead (l : Launch) (D : va_G) (k : Nat → ClassId) (o : Nat → Nat) (p0 : Int32)  : RO l yX10_isHead cX10_isHead 2 (some .boolean) 0 D k [.ref (o 0), .int p0] [((o 0), .inr (10, [.ref (o 1), .ref (o 2), .ref (o 3), .ref (o 4), .ref (o 5), .ref (o 6), .ref (o 7), .ref (o 8), .ref (o 9), .ref (o 10), .ref (o 11), .ref (o 12), .ref (o 13), .ref (o 14)])), ((o 3), .inr (2, [.int 0, .int 0, .int 0, .int 0, .int 0, .int 0, .int 0, .int 0, .int 0, .ref (o 26), .ref (o 27), .ref (o 28), .ref (o 29), .ref (o 30), .ref (o 31), .ref (o 32), .ref (o 33), .ref (o 34), .ref (o 35)]))] (Qi (fun r : Int32 => r = 0)) := by
  refine RO.of (by decide) (Nat.le_of_ble_eq_true rfl) ?_
  intro p e s m below meth c ls A args Q S hr hlk hQ hK hP hDW hA hS hl
  have hx := S.1
  have hb := S.2.1
  have hl : lv_has ls 2 [(0, .ref (o 0)), (1, .int p0)] := hl
  refine lv_iload_n hx hb dX10_isHead_0 rfl (lv_at hl 1 rfl) ?_
  refine lv_if_lt (tgt := 19) hx hb dX10_isHead_1 (by decide) (fun c_1 => ?_) (fun c_1 => ?_)
  · skip
    refine lv_iconst (v := 0) hx hb dX10_isHead_19 (by decide) ?_
    exact x_retz S hr hlk hQ hS rfl () rfl x_T dX10_isHead_20
  · skip
    refine lv_iload_n hx hb dX10_isHead_4 rfl (lv_at hl 1 rfl) ?_
    refine lv_aload_n hx hb dX10_isHead_5 rfl (lv_at hl 0 rfl) ?_
    refine x_get S hK hP 0 rfl cfX10 2 lkX10_23 (by decide) rfl dX10_isHead_6 ?_
    refine x_get S hK hP 1 rfl cfX2 5 lkX10_296 (by decide) rfl dX10_isHead_9 ?_
    refine lv_icmp_ge (tgt := 19) hx hb dX10_isHead_12 (by decide) (fun c_2 => ?_) (fun c_2 => ?_)
    · skip
      refine lv_iconst (v := 0) hx hb dX10_isHead_19 (by decide) ?_
      exact x_retz S hr hlk hQ hS rfl () rfl x_T dX10_isHead_20
    · skip
      exact absurd (Int32.not_le.mp c_2) c_1

set_option maxHeartbeats 4000000 in
set_option maxRecDepth 100000 in
theorem ctX10_isRow (l : Launch) (D : va_G) (k : Nat → ClassId) (o : Nat → Nat) (p0 : Int32)  : RO l yX10_isRow cX10_isRow 2 (some .boolean) 0 D k [.ref (o 0), .int p0] [((o 0), .inr (10, [.ref (o 1), .ref (o 2), .ref (o 3), .ref (o 4), .ref (o 5), .ref (o 6), .ref (o 7), .ref (o 8), .ref (o 9), .ref (o 10), .ref (o 11), .ref (o 12), .ref (o 13), .ref (o 14)])), ((o 3), .inr (2, [.int 0, .int 0, .int 0, .int 0, .int 0, .int 0, .int 0, .int 0, .int 0, .ref (o 26), .ref (o 27), .ref (o 28), .ref (o 29), .ref (o 30), .ref (o 31), .ref (o 32), .ref (o 33), .ref (o 34), .ref (o 35)]))] (Qi (fun r : Int32 => r = 0)) := by
  refine RO.of (by decide) (Nat.le_of_ble_eq_true rfl) ?_
  intro p e s m below meth c ls A args Q S hr hlk hQ hK hP hDW hA hS hl
  have hx := S.1
  have hb := S.2.1
  have hl : lv_has ls 2 [(0, .ref (o 0)), (1, .int p0)] := hl
  refine lv_iload_n hx hb dX10_isRow_0 rfl (lv_at hl 1 rfl) ?_
  refine lv_if_lt (tgt := 19) hx hb dX10_isRow_1 (by decide) (fun c_1 => ?_) (fun c_1 => ?_)
  · skip
    refine lv_iconst (v := 0) hx hb dX10_isRow_19 (by decide) ?_
    exact x_retz S hr hlk hQ hS rfl () rfl x_T dX10_isRow_20
  · skip
    refine lv_iload_n hx hb dX10_isRow_4 rfl (lv_at hl 1 rfl) ?_
    refine lv_aload_n hx hb dX10_isRow_5 rfl (lv_at hl 0 rfl) ?_
    refine x_get S hK hP 0 rfl cfX10 2 lkX10_23 (by decide) rfl dX10_isRow_6 ?_
    refine x_get S hK hP 1 rfl cfX2 4 lkX10_423 (by decide) rfl dX10_isRow_9 ?_
    refine lv_icmp_ge (tgt := 19) hx hb dX10_isRow_12 (by decide) (fun c_2 => ?_) (fun c_2 => ?_)
    · skip
      refine lv_iconst (v := 0) hx hb dX10_isRow_19 (by decide) ?_
      exact x_retz S hr hlk hQ hS rfl () rfl x_T dX10_isRow_20
    · skip
      exact absurd (Int32.not_le.mp c_2) c_1

set_option maxHeartbeats 4000000 in
set_option maxRecDepth 100000 in
theorem ctX10_isHour (l : Launch) (D : va_G) (k : Nat → ClassId) (o : Nat → Nat) (p0 : Int32)  : RO l yX10_isHour cX10_isHour 2 (some .boolean) 1 D k [.ref (o 0), .int p0] [((o 0), .inr (10, [.ref (o 1), .ref (o 2), .ref (o 3), .ref (o 4), .ref (o 5), .ref (o 6), .ref (o 7), .ref (o 8), .ref (o 9), .ref (o 10), .ref (o 11), .ref (o 12), .ref (o 13), .ref (o 14)])), ((o 3), .inr (2, [.int 0, .int 0, .int 0, .int 0, .int 0, .int 0, .int 0, .int 0, .int 0, .ref (o 26), .ref (o 27), .ref (o 28), .ref (o 29), .ref (o 30), .ref (o 31), .ref (o 32), .ref (o 33), .ref (o 34), .ref (o 35)]))] (Qi (fun r : Int32 => r = 0)) := by
  refine RO.of (by decide) (Nat.le_of_ble_eq_true rfl) ?_
  intro p e s m below meth c ls A args Q S hr hlk hQ hK hP hDW hA hS hl
  have hx := S.1
  have hb := S.2.1
  have hl : lv_has ls 2 [(0, .ref (o 0)), (1, .int p0)] := hl
  refine lv_aload_n hx hb dX10_isHour_0 rfl (lv_at hl 0 rfl) ?_
  refine x_roVi (As := []) S hK hP hS hA hl mwX10_isGarden lkX10_196 (ctX10_isGarden l D k o ) [0, 1] rfl (hDW.sub [0, 1] (by decide) rfl) rfl rfl rfl rfl rfl ⟨Nat.le_of_ble_eq_true rfl, Nat.le_of_ble_eq_true rfl, Nat.le_of_ble_eq_true rfl⟩ dX10_isHour_1 ⟨Nat.le_of_ble_eq_true rfl, Nat.le_of_ble_eq_true rfl⟩ (fun r_1 H locs hr_1 hP hS => ?_)
  subst hr_1
  refine lv_if_eq (tgt := 26) hx hb dX10_isHour_4 (by decide) (fun c_2 => ?_) (fun c_2 => absurd (by decide) c_2)
  refine lv_iconst (v := 0) hx hb dX10_isHour_26 (by decide) ?_
  exact x_retz S hr hlk hQ hS rfl () rfl x_T dX10_isHour_27

set_option maxHeartbeats 4000000 in
set_option maxRecDepth 100000 in
theorem ctX10_isWetHour (l : Launch) (D : va_G) (k : Nat → ClassId) (o : Nat → Nat) (p0 : Int32)  : RO l yX10_isWetHour cX10_isWetHour 2 (some .boolean) 2 D k [.ref (o 0), .int p0] [((o 0), .inr (10, [.ref (o 1), .ref (o 2), .ref (o 3), .ref (o 4), .ref (o 5), .ref (o 6), .ref (o 7), .ref (o 8), .ref (o 9), .ref (o 10), .ref (o 11), .ref (o 12), .ref (o 13), .ref (o 14)])), ((o 3), .inr (2, [.int 0, .int 0, .int 0, .int 0, .int 0, .int 0, .int 0, .int 0, .int 0, .ref (o 26), .ref (o 27), .ref (o 28), .ref (o 29), .ref (o 30), .ref (o 31), .ref (o 32), .ref (o 33), .ref (o 34), .ref (o 35)]))] (Qi (fun r : Int32 => r = 0)) := by
  refine RO.of (by decide) (Nat.le_of_ble_eq_true rfl) ?_
  intro p e s m below meth c ls A args Q S hr hlk hQ hK hP hDW hA hS hl
  have hx := S.1
  have hb := S.2.1
  have hl : lv_has ls 2 [(0, .ref (o 0)), (1, .int p0)] := hl
  refine lv_aload_n hx hb dX10_isWetHour_0 rfl (lv_at hl 0 rfl) ?_
  refine lv_iload_n hx hb dX10_isWetHour_1 rfl (lv_at hl 1 rfl) ?_
  refine x_roVi (As := [.int p0]) S hK hP hS hA hl mwX10_isHour lkX10_161 (ctX10_isHour l D k o p0 ) [0, 1] rfl (hDW.sub [0, 1] (by decide) rfl) rfl rfl rfl rfl rfl ⟨Nat.le_of_ble_eq_true rfl, Nat.le_of_ble_eq_true rfl, Nat.le_of_ble_eq_true rfl⟩ dX10_isWetHour_2 ⟨Nat.le_of_ble_eq_true rfl, Nat.le_of_ble_eq_true rfl⟩ (fun r_1 H locs hr_1 hP hS => ?_)
  subst hr_1
  refine lv_if_eq (tgt := 29) hx hb dX10_isWetHour_5 (by decide) (fun c_2 => ?_) (fun c_2 => absurd (by decide) c_2)
  refine lv_iconst (v := 0) hx hb dX10_isWetHour_29 (by decide) ?_
  exact x_retz S hr hlk hQ hS rfl () rfl x_T dX10_isWetHour_30

set_option maxHeartbeats 4000000 in
set_option maxRecDepth 100000 in
theorem ctX10_isPair (l : Launch) (D : va_G) (k : Nat → ClassId) (o : Nat → Nat) (p0 : Int32) (p1 : Int32)  : RO l yX10_isPair cX10_isPair 3 (some .boolean) 1 D k [.ref (o 0), .int p0, .int p1] [((o 0), .inr (10, [.ref (o 1), .ref (o 2), .ref (o 3), .ref (o 4), .ref (o 5), .ref (o 6), .ref (o 7), .ref (o 8), .ref (o 9), .ref (o 10), .ref (o 11), .ref (o 12), .ref (o 13), .ref (o 14)])), ((o 3), .inr (2, [.int 0, .int 0, .int 0, .int 0, .int 0, .int 0, .int 0, .int 0, .int 0, .ref (o 26), .ref (o 27), .ref (o 28), .ref (o 29), .ref (o 30), .ref (o 31), .ref (o 32), .ref (o 33), .ref (o 34), .ref (o 35)]))] (Qi (fun r : Int32 => r = 0)) := by
  refine RO.of (by decide) (Nat.le_of_ble_eq_true rfl) ?_
  intro p e s m below meth c ls A args Q S hr hlk hQ hK hP hDW hA hS hl
  have hx := S.1
  have hb := S.2.1
  have hl : lv_has ls 3 [(0, .ref (o 0)), (1, .int p0), (2, .int p1)] := hl
  refine lv_aload_n hx hb dX10_isPair_0 rfl (lv_at hl 0 rfl) ?_
  refine lv_iload_n hx hb dX10_isPair_1 rfl (lv_at hl 1 rfl) ?_
  refine x_roVi (As := [.int p0]) S hK hP hS hA hl mwX10_isHead lkX10_135 (ctX10_isHead l D k o p0 ) [0, 1] rfl (hDW.sub [0, 1] (by decide) rfl) rfl rfl rfl rfl rfl ⟨Nat.le_of_ble_eq_true rfl, Nat.le_of_ble_eq_true rfl, Nat.le_of_ble_eq_true rfl⟩ dX10_isPair_2 ⟨Nat.le_of_ble_eq_true rfl, Nat.le_of_ble_eq_true rfl⟩ (fun r_1 H locs hr_1 hP hS => ?_)
  subst hr_1
  refine lv_if_eq (tgt := 25) hx hb dX10_isPair_5 (by decide) (fun c_2 => ?_) (fun c_2 => absurd (by decide) c_2)
  refine lv_iconst (v := 0) hx hb dX10_isPair_25 (by decide) ?_
  exact x_retz S hr hlk hQ hS rfl () rfl x_T dX10_isPair_26

set_option maxHeartbeats 4000000 in
set_option maxRecDepth 100000 in
theorem ctX10_refusalOfSeen (l : Launch) (D : va_G) (k : Nat → ClassId) (o : Nat → Nat) (p0 : Int32)  : RO l yX10_refusalOfSeen cX10_refusalOfSeen 2 (some .int) 1 D k [.ref (o 0), .int p0] [((o 0), .inr (10, [.ref (o 1), .ref (o 2), .ref (o 3), .ref (o 4), .ref (o 5), .ref (o 6), .ref (o 7), .ref (o 8), .ref (o 9), .ref (o 10), .ref (o 11), .ref (o 12), .ref (o 13), .ref (o 14)])), ((o 3), .inr (2, [.int 0, .int 0, .int 0, .int 0, .int 0, .int 0, .int 0, .int 0, .int 0, .ref (o 26), .ref (o 27), .ref (o 28), .ref (o 29), .ref (o 30), .ref (o 31), .ref (o 32), .ref (o 33), .ref (o 34), .ref (o 35)]))] (Qi (fun r : Int32 => r = (-2))) := by
  refine RO.of (by decide) (Nat.le_of_ble_eq_true rfl) ?_
  intro p e s m below meth c ls A args Q S hr hlk hQ hK hP hDW hA hS hl
  have hx := S.1
  have hb := S.2.1
  have hl : lv_has ls 2 [(0, .ref (o 0)), (1, .int p0)] := hl
  refine lv_iload_n hx hb dX10_refusalOfSeen_0 rfl (lv_at hl 1 rfl) ?_
  refine x_roSi (As := [.int p0]) S hK hP hS hA hl mwX10_isSlot lkX10_435 (ctX10_isSlot l D k p0 ) [] rfl D_nil rfl rfl ⟨Nat.le_of_ble_eq_true rfl, Nat.le_of_ble_eq_true rfl, Nat.le_of_ble_eq_true rfl⟩ dX10_refusalOfSeen_1 ⟨Nat.le_of_ble_eq_true rfl, Nat.le_of_ble_eq_true rfl⟩ (fun r_1 H locs hr_1 hP hS => ?_)
  subst hr_1
  refine lv_if_eq (tgt := 14) hx hb dX10_refusalOfSeen_4 (by decide) (fun c_2 => ?_) (fun c_2 => ?_)
  · skip
    have c_2 : ¬ (0 ≤ p0 ∧ p0 < 4) := bo_0.mp c_2
    refine lv_bipush (v := (-2)) hx hb dX10_refusalOfSeen_14 (by decide) ?_
    exact x_reti S hr hlk hQ hS () rfl x_T dX10_refusalOfSeen_16
  · skip
    have c_2 : 0 ≤ p0 ∧ p0 < 4 := bo_1.mp c_2
    refine lv_aload_n hx hb dX10_refusalOfSeen_7 rfl (lv_at hl 0 rfl) ?_
    refine x_roVi (As := []) S hK hP hS hA hl mwX10_isGarden lkX10_196 (ctX10_isGarden l D k o ) [0, 1] rfl (hDW.sub [0, 1] (by decide) rfl) rfl rfl rfl rfl rfl ⟨Nat.le_of_ble_eq_true rfl, Nat.le_of_ble_eq_true rfl, Nat.le_of_ble_eq_true rfl⟩ dX10_refusalOfSeen_8 ⟨Nat.le_of_ble_eq_true rfl, Nat.le_of_ble_eq_true rfl⟩ (fun r_3 H locs hr_3 hP hS => ?_)
    subst hr_3
    refine lv_if_ne (tgt := 17) hx hb dX10_refusalOfSeen_11 (by decide) (fun c_4 => absurd (by decide) c_4) (fun c_4 => ?_)
    refine lv_bipush (v := (-2)) hx hb dX10_refusalOfSeen_14 (by decide) ?_
    exact x_reti S hr hlk hQ hS () rfl x_T dX10_refusalOfSeen_16
