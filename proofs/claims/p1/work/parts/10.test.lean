theorem dX10_isView_0 : decode cX10_isView 0 = .ok (.iload_n 0, 1) := by decide +kernel
theorem dX10_isView_1 : decode cX10_isView 1 = .ok (.iconst 1, 1) := by decide +kernel
theorem dX10_isView_2 : decode cX10_isView 2 = .ok (.if_icmp .eq 8, 3) := by decide +kernel
theorem dX10_isView_5 : decode cX10_isView 5 = .ok (.iload_n 0, 1) := by decide +kernel
theorem dX10_isView_6 : decode cX10_isView 6 = .ok (.iconst 2, 1) := by decide +kernel
theorem dX10_isView_7 : decode cX10_isView 7 = .ok (.if_icmp .ne 7, 3) := by decide +kernel
theorem dX10_isView_10 : decode cX10_isView 10 = .ok (.iconst 1, 1) := by decide +kernel
theorem dX10_isView_11 : decode cX10_isView 11 = .ok (.goto 4, 3) := by decide +kernel
theorem dX10_isView_14 : decode cX10_isView 14 = .ok (.iconst 0, 1) := by decide +kernel
theorem dX10_isView_15 : decode cX10_isView 15 = .ok (.ireturn, 1) := by decide +kernel
theorem dX10_isAnyView_0 : decode cX10_isAnyView 0 = .ok (.iload_n 0, 1) := by decide +kernel
theorem dX10_isAnyView_1 : decode cX10_isAnyView 1 = .ok (.ifCond .lt 12, 3) := by decide +kernel
theorem dX10_isAnyView_4 : decode cX10_isAnyView 4 = .ok (.iload_n 0, 1) := by decide +kernel
theorem dX10_isAnyView_5 : decode cX10_isAnyView 5 = .ok (.iconst 2, 1) := by decide +kernel
theorem dX10_isAnyView_6 : decode cX10_isAnyView 6 = .ok (.if_icmp .gt 7, 3) := by decide +kernel
theorem dX10_isAnyView_9 : decode cX10_isAnyView 9 = .ok (.iconst 1, 1) := by decide +kernel
theorem dX10_isAnyView_10 : decode cX10_isAnyView 10 = .ok (.goto 4, 3) := by decide +kernel
theorem dX10_isAnyView_13 : decode cX10_isAnyView 13 = .ok (.iconst 0, 1) := by decide +kernel
theorem dX10_isAnyView_14 : decode cX10_isAnyView 14 = .ok (.ireturn, 1) := by decide +kernel
theorem dX10_isPart_0 : decode cX10_isPart 0 = .ok (.iload_n 0, 1) := by decide +kernel
theorem dX10_isPart_1 : decode cX10_isPart 1 = .ok (.ifCond .eq 8, 3) := by decide +kernel
theorem dX10_isPart_4 : decode cX10_isPart 4 = .ok (.iload_n 0, 1) := by decide +kernel
theorem dX10_isPart_5 : decode cX10_isPart 5 = .ok (.iconst 1, 1) := by decide +kernel
theorem dX10_isPart_6 : decode cX10_isPart 6 = .ok (.if_icmp .ne 7, 3) := by decide +kernel
theorem dX10_isPart_9 : decode cX10_isPart 9 = .ok (.iconst 1, 1) := by decide +kernel
theorem dX10_isPart_10 : decode cX10_isPart 10 = .ok (.goto 4, 3) := by decide +kernel
theorem dX10_isPart_13 : decode cX10_isPart 13 = .ok (.iconst 0, 1) := by decide +kernel
theorem dX10_isPart_14 : decode cX10_isPart 14 = .ok (.ireturn, 1) := by decide +kernel
theorem dX10_isSeed_0 : decode cX10_isSeed 0 = .ok (.iload_n 0, 1) := by decide +kernel
theorem dX10_isSeed_1 : decode cX10_isSeed 1 = .ok (.ifCond .lt 14, 3) := by decide +kernel
theorem dX10_isSeed_4 : decode cX10_isSeed 4 = .ok (.iload_n 0, 1) := by decide +kernel
theorem dX10_isSeed_5 : decode cX10_isSeed 5 = .ok (.ldc_w 468, 3) := by decide +kernel
theorem dX10_isSeed_8 : decode cX10_isSeed 8 = .ok (.if_icmp .gt 7, 3) := by decide +kernel
theorem dX10_isSeed_11 : decode cX10_isSeed 11 = .ok (.iconst 1, 1) := by decide +kernel
theorem dX10_isSeed_12 : decode cX10_isSeed 12 = .ok (.goto 4, 3) := by decide +kernel
theorem dX10_isSeed_15 : decode cX10_isSeed 15 = .ok (.iconst 0, 1) := by decide +kernel
theorem dX10_isSeed_16 : decode cX10_isSeed 16 = .ok (.ireturn, 1) := by decide +kernel
theorem dX10_isGarden_0 : decode cX10_isGarden 0 = .ok (.aload_n 0, 1) := by decide +kernel
theorem dX10_isGarden_1 : decode cX10_isGarden 1 = .ok (.getfield 23, 3) := by decide +kernel
theorem dX10_isGarden_4 : decode cX10_isGarden 4 = .ok (.getfield 126, 3) := by decide +kernel
theorem dX10_isGarden_7 : decode cX10_isGarden 7 = .ok (.ifCond .le 7, 3) := by decide +kernel
theorem dX10_isGarden_10 : decode cX10_isGarden 10 = .ok (.iconst 1, 1) := by decide +kernel
theorem dX10_isGarden_11 : decode cX10_isGarden 11 = .ok (.goto 4, 3) := by decide +kernel
theorem dX10_isGarden_14 : decode cX10_isGarden 14 = .ok (.iconst 0, 1) := by decide +kernel
theorem dX10_isGarden_15 : decode cX10_isGarden 15 = .ok (.ireturn, 1) := by decide +kernel
theorem dX10_isHead_0 : decode cX10_isHead 0 = .ok (.iload_n 1, 1) := by decide +kernel
theorem dX10_isHead_1 : decode cX10_isHead 1 = .ok (.ifCond .lt 18, 3) := by decide +kernel
theorem dX10_isHead_4 : decode cX10_isHead 4 = .ok (.iload_n 1, 1) := by decide +kernel
theorem dX10_isHead_5 : decode cX10_isHead 5 = .ok (.aload_n 0, 1) := by decide +kernel
theorem dX10_isHead_6 : decode cX10_isHead 6 = .ok (.getfield 23, 3) := by decide +kernel
theorem dX10_isHead_9 : decode cX10_isHead 9 = .ok (.getfield 296, 3) := by decide +kernel
theorem dX10_isHead_12 : decode cX10_isHead 12 = .ok (.if_icmp .ge 7, 3) := by decide +kernel
theorem dX10_isHead_15 : decode cX10_isHead 15 = .ok (.iconst 1, 1) := by decide +kernel
theorem dX10_isHead_16 : decode cX10_isHead 16 = .ok (.goto 4, 3) := by decide +kernel
theorem dX10_isHead_19 : decode cX10_isHead 19 = .ok (.iconst 0, 1) := by decide +kernel
theorem dX10_isHead_20 : decode cX10_isHead 20 = .ok (.ireturn, 1) := by decide +kernel
theorem dX10_isRow_0 : decode cX10_isRow 0 = .ok (.iload_n 1, 1) := by decide +kernel
theorem dX10_isRow_1 : decode cX10_isRow 1 = .ok (.ifCond .lt 18, 3) := by decide +kernel
theorem dX10_isRow_4 : decode cX10_isRow 4 = .ok (.iload_n 1, 1) := by decide +kernel
theorem dX10_isRow_5 : decode cX10_isRow 5 = .ok (.aload_n 0, 1) := by decide +kernel
theorem dX10_isRow_6 : decode cX10_isRow 6 = .ok (.getfield 23, 3) := by decide +kernel
theorem dX10_isRow_9 : decode cX10_isRow 9 = .ok (.getfield 423, 3) := by decide +kernel
theorem dX10_isRow_12 : decode cX10_isRow 12 = .ok (.if_icmp .ge 7, 3) := by decide +kernel
theorem dX10_isRow_15 : decode cX10_isRow 15 = .ok (.iconst 1, 1) := by decide +kernel
theorem dX10_isRow_16 : decode cX10_isRow 16 = .ok (.goto 4, 3) := by decide +kernel
theorem dX10_isRow_19 : decode cX10_isRow 19 = .ok (.iconst 0, 1) := by decide +kernel
theorem dX10_isRow_20 : decode cX10_isRow 20 = .ok (.ireturn, 1) := by decide +kernel
theorem dX10_isHour_0 : decode cX10_isHour 0 = .ok (.aload_n 0, 1) := by decide +kernel
theorem dX10_isHour_1 : decode cX10_isHour 1 = .ok (.invokevirtual 196, 3) := by decide +kernel
theorem dX10_isHour_4 : decode cX10_isHour 4 = .ok (.ifCond .eq 22, 3) := by decide +kernel
theorem dX10_isHour_7 : decode cX10_isHour 7 = .ok (.iload_n 1, 1) := by decide +kernel
theorem dX10_isHour_8 : decode cX10_isHour 8 = .ok (.ifCond .lt 18, 3) := by decide +kernel
theorem dX10_isHour_11 : decode cX10_isHour 11 = .ok (.iload_n 1, 1) := by decide +kernel
theorem dX10_isHour_12 : decode cX10_isHour 12 = .ok (.aload_n 0, 1) := by decide +kernel
theorem dX10_isHour_13 : decode cX10_isHour 13 = .ok (.getfield 23, 3) := by decide +kernel
theorem dX10_isHour_16 : decode cX10_isHour 16 = .ok (.getfield 401, 3) := by decide +kernel
theorem dX10_isHour_19 : decode cX10_isHour 19 = .ok (.if_icmp .gt 7, 3) := by decide +kernel
theorem dX10_isHour_22 : decode cX10_isHour 22 = .ok (.iconst 1, 1) := by decide +kernel
theorem dX10_isHour_23 : decode cX10_isHour 23 = .ok (.goto 4, 3) := by decide +kernel
theorem dX10_isHour_26 : decode cX10_isHour 26 = .ok (.iconst 0, 1) := by decide +kernel
theorem dX10_isHour_27 : decode cX10_isHour 27 = .ok (.ireturn, 1) := by decide +kernel
theorem dX10_near_0 : decode cX10_near 0 = .ok (.aload_n 0, 1) := by decide +kernel
theorem dX10_near_1 : decode cX10_near 1 = .ok (.iload_n 1, 1) := by decide +kernel
theorem dX10_near_2 : decode cX10_near 2 = .ok (.invokevirtual 135, 3) := by decide +kernel
theorem dX10_near_5 : decode cX10_near 5 = .ok (.ifCond .eq 15, 3) := by decide +kernel
theorem dX10_near_8 : decode cX10_near 8 = .ok (.aload_n 0, 1) := by decide +kernel
theorem dX10_near_9 : decode cX10_near 9 = .ok (.getfield 23, 3) := by decide +kernel
theorem dX10_near_12 : decode cX10_near 12 = .ok (.getfield 152, 3) := by decide +kernel
theorem dX10_near_15 : decode cX10_near 15 = .ok (.iload_n 1, 1) := by decide +kernel
theorem dX10_near_16 : decode cX10_near 16 = .ok (.iaload, 1) := by decide +kernel
theorem dX10_near_17 : decode cX10_near 17 = .ok (.goto 5, 3) := by decide +kernel
theorem dX10_near_20 : decode cX10_near 20 = .ok (.bipush (-2), 2) := by decide +kernel
theorem dX10_near_22 : decode cX10_near 22 = .ok (.ireturn, 1) := by decide +kernel
theorem dX10_view_0 : decode cX10_view 0 = .ok (.aload_n 0, 1) := by decide +kernel
theorem dX10_view_1 : decode cX10_view 1 = .ok (.iload_n 1, 1) := by decide +kernel
theorem dX10_view_2 : decode cX10_view 2 = .ok (.invokevirtual 135, 3) := by decide +kernel
theorem dX10_view_5 : decode cX10_view 5 = .ok (.ifCond .eq 23, 3) := by decide +kernel
theorem dX10_view_8 : decode cX10_view 8 = .ok (.aload_n 0, 1) := by decide +kernel
theorem dX10_view_9 : decode cX10_view 9 = .ok (.iload_n 2, 1) := by decide +kernel
theorem dX10_view_10 : decode cX10_view 10 = .ok (.invokevirtual 161, 3) := by decide +kernel
theorem dX10_view_13 : decode cX10_view 13 = .ok (.ifCond .eq 15, 3) := by decide +kernel
theorem dX10_view_16 : decode cX10_view 16 = .ok (.aload_n 0, 1) := by decide +kernel
theorem dX10_view_17 : decode cX10_view 17 = .ok (.getfield 38, 3) := by decide +kernel
theorem dX10_view_20 : decode cX10_view 20 = .ok (.iload_n 1, 1) := by decide +kernel
theorem dX10_view_21 : decode cX10_view 21 = .ok (.iload_n 2, 1) := by decide +kernel
theorem dX10_view_22 : decode cX10_view 22 = .ok (.invokevirtual 164, 3) := by decide +kernel
theorem dX10_view_25 : decode cX10_view 25 = .ok (.goto 5, 3) := by decide +kernel
theorem dX10_view_28 : decode cX10_view 28 = .ok (.bipush (-2), 2) := by decide +kernel
theorem dX10_view_30 : decode cX10_view 30 = .ok (.ireturn, 1) := by decide +kernel
theorem dX10_holding_0 : decode cX10_holding 0 = .ok (.iload_n 1, 1) := by decide +kernel
theorem dX10_holding_1 : decode cX10_holding 1 = .ok (.invokestatic 168, 3) := by decide +kernel
theorem dX10_holding_4 : decode cX10_holding 4 = .ok (.ifCond .eq 23, 3) := by decide +kernel
theorem dX10_holding_7 : decode cX10_holding 7 = .ok (.aload_n 0, 1) := by decide +kernel
theorem dX10_holding_8 : decode cX10_holding 8 = .ok (.iload_n 2, 1) := by decide +kernel
theorem dX10_holding_9 : decode cX10_holding 9 = .ok (.invokevirtual 161, 3) := by decide +kernel
theorem dX10_holding_12 : decode cX10_holding 12 = .ok (.ifCond .eq 15, 3) := by decide +kernel
theorem dX10_holding_15 : decode cX10_holding 15 = .ok (.aload_n 0, 1) := by decide +kernel
theorem dX10_holding_16 : decode cX10_holding 16 = .ok (.getfield 50, 3) := by decide +kernel
theorem dX10_holding_19 : decode cX10_holding 19 = .ok (.iload_n 1, 1) := by decide +kernel
theorem dX10_holding_20 : decode cX10_holding 20 = .ok (.iload_n 2, 1) := by decide +kernel
theorem dX10_holding_21 : decode cX10_holding 21 = .ok (.invokevirtual 171, 3) := by decide +kernel
theorem dX10_holding_24 : decode cX10_holding 24 = .ok (.goto 5, 3) := by decide +kernel
theorem dX10_holding_27 : decode cX10_holding 27 = .ok (.bipush (-2), 2) := by decide +kernel
theorem dX10_holding_29 : decode cX10_holding 29 = .ok (.ireturn, 1) := by decide +kernel

set_option maxHeartbeats 4000000 in
set_option maxRecDepth 100000 in
theorem ctX10_isView (l : Launch) (D : va_G) (k : Nat → ClassId) (p0 : Int32)  : RO l yX10_isView cX10_isView 1 (some .boolean) 0 D k [.int p0] [] (Qi (fun r : Int32 => True)) := by
  refine RO.of (by decide) (Nat.le_of_ble_eq_true rfl) ?_
  intro p e s m below meth c ls A args Q S hr hlk hQ hK hP hDW hA hS hl
  have hx := S.1
  have hb := S.2.1
  have hl : lv_has ls 1 [(0, .int p0)] := hl
  refine lv_iload_n hx hb dX10_isView_0 rfl (lv_at hl 0 rfl) ?_
  refine lv_iconst (v := 1) hx hb dX10_isView_1 (by decide) ?_
  refine lv_icmp_eq (tgt := 10) hx hb dX10_isView_2 (by decide) (fun c1 => ?_) (fun c1 => ?_)
  · skip
    refine lv_iconst (v := 1) hx hb dX10_isView_10 (by decide) ?_
    refine lv_goto (tgt := 15) hx hb dX10_isView_11 (by decide) ?_
    exact x_retz S hr hlk hQ hS rfl () trivial x_T dX10_isView_15
  · skip
    refine lv_iload_n hx hb dX10_isView_5 rfl (lv_at hl 0 rfl) ?_
    refine lv_iconst (v := 2) hx hb dX10_isView_6 (by decide) ?_
    refine lv_icmp_ne (tgt := 14) hx hb dX10_isView_7 (by decide) (fun c2 => ?_) (fun c2 => ?_)
    · skip
      refine lv_iconst (v := 0) hx hb dX10_isView_14 (by decide) ?_
      exact x_retz S hr hlk hQ hS rfl () trivial x_T dX10_isView_15
    · skip
      refine lv_iconst (v := 1) hx hb dX10_isView_10 (by decide) ?_
      refine lv_goto (tgt := 15) hx hb dX10_isView_11 (by decide) ?_
      exact x_retz S hr hlk hQ hS rfl () trivial x_T dX10_isView_15

set_option maxHeartbeats 4000000 in
set_option maxRecDepth 100000 in
theorem ctX10_isAnyView (l : Launch) (D : va_G) (k : Nat → ClassId) (p0 : Int32)  : RO l yX10_isAnyView cX10_isAnyView 1 (some .boolean) 0 D k [.int p0] [] (Qi (fun r : Int32 => True)) := by
  refine RO.of (by decide) (Nat.le_of_ble_eq_true rfl) ?_
  intro p e s m below meth c ls A args Q S hr hlk hQ hK hP hDW hA hS hl
  have hx := S.1
  have hb := S.2.1
  have hl : lv_has ls 1 [(0, .int p0)] := hl
  refine lv_iload_n hx hb dX10_isAnyView_0 rfl (lv_at hl 0 rfl) ?_
  refine lv_if_lt (tgt := 13) hx hb dX10_isAnyView_1 (by decide) (fun c1 => ?_) (fun c1 => ?_)
  · skip
    refine lv_iconst (v := 0) hx hb dX10_isAnyView_13 (by decide) ?_
    exact x_retz S hr hlk hQ hS rfl () trivial x_T dX10_isAnyView_14
  · skip
    refine lv_iload_n hx hb dX10_isAnyView_4 rfl (lv_at hl 0 rfl) ?_
    refine lv_iconst (v := 2) hx hb dX10_isAnyView_5 (by decide) ?_
    refine lv_icmp_gt (tgt := 13) hx hb dX10_isAnyView_6 (by decide) (fun c2 => ?_) (fun c2 => ?_)
    · skip
      refine lv_iconst (v := 0) hx hb dX10_isAnyView_13 (by decide) ?_
      exact x_retz S hr hlk hQ hS rfl () trivial x_T dX10_isAnyView_14
    · skip
      refine lv_iconst (v := 1) hx hb dX10_isAnyView_9 (by decide) ?_
      refine lv_goto (tgt := 14) hx hb dX10_isAnyView_10 (by decide) ?_
      exact x_retz S hr hlk hQ hS rfl () trivial x_T dX10_isAnyView_14

set_option maxHeartbeats 4000000 in
set_option maxRecDepth 100000 in
theorem ctX10_isPart (l : Launch) (D : va_G) (k : Nat → ClassId) (p0 : Int32)  : RO l yX10_isPart cX10_isPart 1 (some .boolean) 0 D k [.int p0] [] (Qi (fun r : Int32 => True)) := by
  refine RO.of (by decide) (Nat.le_of_ble_eq_true rfl) ?_
  intro p e s m below meth c ls A args Q S hr hlk hQ hK hP hDW hA hS hl
  have hx := S.1
  have hb := S.2.1
  have hl : lv_has ls 1 [(0, .int p0)] := hl
  refine lv_iload_n hx hb dX10_isPart_0 rfl (lv_at hl 0 rfl) ?_
  refine lv_if_eq (tgt := 9) hx hb dX10_isPart_1 (by decide) (fun c1 => ?_) (fun c1 => ?_)
  · skip
    refine lv_iconst (v := 1) hx hb dX10_isPart_9 (by decide) ?_
    refine lv_goto (tgt := 14) hx hb dX10_isPart_10 (by decide) ?_
    exact x_retz S hr hlk hQ hS rfl () trivial x_T dX10_isPart_14
  · skip
    refine lv_iload_n hx hb dX10_isPart_4 rfl (lv_at hl 0 rfl) ?_
    refine lv_iconst (v := 1) hx hb dX10_isPart_5 (by decide) ?_
    refine lv_icmp_ne (tgt := 13) hx hb dX10_isPart_6 (by decide) (fun c2 => ?_) (fun c2 => ?_)
    · skip
      refine lv_iconst (v := 0) hx hb dX10_isPart_13 (by decide) ?_
      exact x_retz S hr hlk hQ hS rfl () trivial x_T dX10_isPart_14
    · skip
      refine lv_iconst (v := 1) hx hb dX10_isPart_9 (by decide) ?_
      refine lv_goto (tgt := 14) hx hb dX10_isPart_10 (by decide) ?_
      exact x_retz S hr hlk hQ hS rfl () trivial x_T dX10_isPart_14

set_option maxHeartbeats 4000000 in
set_option maxRecDepth 100000 in
theorem ctX10_isSeed (l : Launch) (D : va_G) (k : Nat → ClassId) (p0 : Int32)  : RO l yX10_isSeed cX10_isSeed 1 (some .boolean) 0 D k [.int p0] [] (Qi (fun r : Int32 => True)) := by
  refine RO.of (by decide) (Nat.le_of_ble_eq_true rfl) ?_
  intro p e s m below meth c ls A args Q S hr hlk hQ hK hP hDW hA hS hl
  have hx := S.1
  have hb := S.2.1
  have hl : lv_has ls 1 [(0, .int p0)] := hl
  refine lv_iload_n hx hb dX10_isSeed_0 rfl (lv_at hl 0 rfl) ?_
  refine lv_if_lt (tgt := 15) hx hb dX10_isSeed_1 (by decide) (fun c1 => ?_) (fun c1 => ?_)
  · skip
    refine lv_iconst (v := 0) hx hb dX10_isSeed_15 (by decide) ?_
    exact x_retz S hr hlk hQ hS rfl () trivial x_T dX10_isSeed_16
  · skip
    refine lv_iload_n hx hb dX10_isSeed_4 rfl (lv_at hl 0 rfl) ?_
    refine lv_ldcw hx hb S.2.2.2.1 (S.2.2.2.2 _ lkX10_468) dX10_isSeed_5 ?_
    refine lv_icmp_gt (tgt := 15) hx hb dX10_isSeed_8 (by decide) (fun c2 => ?_) (fun c2 => ?_)
    · skip
      refine lv_iconst (v := 0) hx hb dX10_isSeed_15 (by decide) ?_
      exact x_retz S hr hlk hQ hS rfl () trivial x_T dX10_isSeed_16
    · skip
      refine lv_iconst (v := 1) hx hb dX10_isSeed_11 (by decide) ?_
      refine lv_goto (tgt := 16) hx hb dX10_isSeed_12 (by decide) ?_
      exact x_retz S hr hlk hQ hS rfl () trivial x_T dX10_isSeed_16

set_option maxHeartbeats 4000000 in
set_option maxRecDepth 100000 in
theorem ctX10_isGarden (l : Launch) (D : va_G) (k : Nat → ClassId) (o : Nat → Nat)  : RO l yX10_isGarden cX10_isGarden 1 (some .boolean) 0 D k [.ref (o 0)] [((o 0), .inr (10, [.ref (o 1), .ref (o 2), .ref (o 3), .ref (o 4), .ref (o 5), .ref (o 6), .ref (o 7), .ref (o 8), .ref (o 9), .ref (o 10), .ref (o 11), .ref (o 12), .ref (o 13), .ref (o 14)])), ((o 3), .inr (2, [.int 0, .int 0, .int 0, .int 0, .int 0, .int 0, .int 0, .int 0, .int 0, .ref (o 26), .ref (o 27), .ref (o 28), .ref (o 29), .ref (o 30), .ref (o 31), .ref (o 32), .ref (o 33), .ref (o 34), .ref (o 35)]))] (Qi (fun r : Int32 => r = 0)) := by
  refine RO.of (by decide) (Nat.le_of_ble_eq_true rfl) ?_
  intro p e s m below meth c ls A args Q S hr hlk hQ hK hP hDW hA hS hl
  have hx := S.1
  have hb := S.2.1
  have hl : lv_has ls 1 [(0, .ref (o 0))] := hl
  refine lv_aload_n hx hb dX10_isGarden_0 rfl (lv_at hl 0 rfl) ?_
  refine x_get S hK hP 0 rfl cfX10 2 lkX10_23 (by decide) rfl dX10_isGarden_1 ?_
  refine x_get S hK hP 1 rfl cfX2 0 lkX10_126 (by decide) rfl dX10_isGarden_4 ?_
  refine lv_if_le (tgt := 14) hx hb dX10_isGarden_7 (by decide) (fun c1 => ?_) (fun c1 => absurd (by decide) c1)
  refine lv_iconst (v := 0) hx hb dX10_isGarden_14 (by decide) ?_
  exact x_retz S hr hlk hQ hS rfl () rfl x_T dX10_isGarden_15

set_option maxHeartbeats 4000000 in
set_option maxRecDepth 100000 in
theorem ctX10_isHead (l : Launch) (D : va_G) (k : Nat → ClassId) (o : Nat → Nat) (p0 : Int32)  : RO l yX10_isHead cX10_isHead 2 (some .boolean) 0 D k [.ref (o 0), .int p0] [((o 0), .inr (10, [.ref (o 1), .ref (o 2), .ref (o 3), .ref (o 4), .ref (o 5), .ref (o 6), .ref (o 7), .ref (o 8), .ref (o 9), .ref (o 10), .ref (o 11), .ref (o 12), .ref (o 13), .ref (o 14)])), ((o 3), .inr (2, [.int 0, .int 0, .int 0, .int 0, .int 0, .int 0, .int 0, .int 0, .int 0, .ref (o 26), .ref (o 27), .ref (o 28), .ref (o 29), .ref (o 30), .ref (o 31), .ref (o 32), .ref (o 33), .ref (o 34), .ref (o 35)]))] (Qi (fun r : Int32 => r = 0)) := by
  refine RO.of (by decide) (Nat.le_of_ble_eq_true rfl) ?_
  intro p e s m below meth c ls A args Q S hr hlk hQ hK hP hDW hA hS hl
  have hx := S.1
  have hb := S.2.1
  have hl : lv_has ls 2 [(0, .ref (o 0)), (1, .int p0)] := hl
  refine lv_iload_n hx hb dX10_isHead_0 rfl (lv_at hl 1 rfl) ?_
  refine lv_if_lt (tgt := 19) hx hb dX10_isHead_1 (by decide) (fun c1 => ?_) (fun c1 => ?_)
  · skip
    refine lv_iconst (v := 0) hx hb dX10_isHead_19 (by decide) ?_
    exact x_retz S hr hlk hQ hS rfl () rfl x_T dX10_isHead_20
  · skip
    refine lv_iload_n hx hb dX10_isHead_4 rfl (lv_at hl 1 rfl) ?_
    refine lv_aload_n hx hb dX10_isHead_5 rfl (lv_at hl 0 rfl) ?_
    refine x_get S hK hP 0 rfl cfX10 2 lkX10_23 (by decide) rfl dX10_isHead_6 ?_
    refine x_get S hK hP 1 rfl cfX2 5 lkX10_296 (by decide) rfl dX10_isHead_9 ?_
    refine lv_icmp_ge (tgt := 19) hx hb dX10_isHead_12 (by decide) (fun c2 => ?_) (fun c2 => ?_)
    · skip
      refine lv_iconst (v := 0) hx hb dX10_isHead_19 (by decide) ?_
      exact x_retz S hr hlk hQ hS rfl () rfl x_T dX10_isHead_20
    · skip
      exact absurd (Int32.not_le.mp c2) c1

set_option maxHeartbeats 4000000 in
set_option maxRecDepth 100000 in
theorem ctX10_isRow (l : Launch) (D : va_G) (k : Nat → ClassId) (o : Nat → Nat) (p0 : Int32)  : RO l yX10_isRow cX10_isRow 2 (some .boolean) 0 D k [.ref (o 0), .int p0] [((o 0), .inr (10, [.ref (o 1), .ref (o 2), .ref (o 3), .ref (o 4), .ref (o 5), .ref (o 6), .ref (o 7), .ref (o 8), .ref (o 9), .ref (o 10), .ref (o 11), .ref (o 12), .ref (o 13), .ref (o 14)])), ((o 3), .inr (2, [.int 0, .int 0, .int 0, .int 0, .int 0, .int 0, .int 0, .int 0, .int 0, .ref (o 26), .ref (o 27), .ref (o 28), .ref (o 29), .ref (o 30), .ref (o 31), .ref (o 32), .ref (o 33), .ref (o 34), .ref (o 35)]))] (Qi (fun r : Int32 => r = 0)) := by
  refine RO.of (by decide) (Nat.le_of_ble_eq_true rfl) ?_
  intro p e s m below meth c ls A args Q S hr hlk hQ hK hP hDW hA hS hl
  have hx := S.1
  have hb := S.2.1
  have hl : lv_has ls 2 [(0, .ref (o 0)), (1, .int p0)] := hl
  refine lv_iload_n hx hb dX10_isRow_0 rfl (lv_at hl 1 rfl) ?_
  refine lv_if_lt (tgt := 19) hx hb dX10_isRow_1 (by decide) (fun c1 => ?_) (fun c1 => ?_)
  · skip
    refine lv_iconst (v := 0) hx hb dX10_isRow_19 (by decide) ?_
    exact x_retz S hr hlk hQ hS rfl () rfl x_T dX10_isRow_20
  · skip
    refine lv_iload_n hx hb dX10_isRow_4 rfl (lv_at hl 1 rfl) ?_
    refine lv_aload_n hx hb dX10_isRow_5 rfl (lv_at hl 0 rfl) ?_
    refine x_get S hK hP 0 rfl cfX10 2 lkX10_23 (by decide) rfl dX10_isRow_6 ?_
    refine x_get S hK hP 1 rfl cfX2 4 lkX10_423 (by decide) rfl dX10_isRow_9 ?_
    refine lv_icmp_ge (tgt := 19) hx hb dX10_isRow_12 (by decide) (fun c2 => ?_) (fun c2 => ?_)
    · skip
      refine lv_iconst (v := 0) hx hb dX10_isRow_19 (by decide) ?_
      exact x_retz S hr hlk hQ hS rfl () rfl x_T dX10_isRow_20
    · skip
      exact absurd (Int32.not_le.mp c2) c1

set_option maxHeartbeats 4000000 in
set_option maxRecDepth 100000 in
theorem ctX10_isHour (l : Launch) (D : va_G) (k : Nat → ClassId) (o : Nat → Nat) (p0 : Int32)  : RO l yX10_isHour cX10_isHour 2 (some .boolean) 1 D k [.ref (o 0), .int p0] [((o 0), .inr (10, [.ref (o 1), .ref (o 2), .ref (o 3), .ref (o 4), .ref (o 5), .ref (o 6), .ref (o 7), .ref (o 8), .ref (o 9), .ref (o 10), .ref (o 11), .ref (o 12), .ref (o 13), .ref (o 14)])), ((o 3), .inr (2, [.int 0, .int 0, .int 0, .int 0, .int 0, .int 0, .int 0, .int 0, .int 0, .ref (o 26), .ref (o 27), .ref (o 28), .ref (o 29), .ref (o 30), .ref (o 31), .ref (o 32), .ref (o 33), .ref (o 34), .ref (o 35)]))] (Qi (fun r : Int32 => r = 0)) := by
  refine RO.of (by decide) (Nat.le_of_ble_eq_true rfl) ?_
  intro p e s m below meth c ls A args Q S hr hlk hQ hK hP hDW hA hS hl
  have hx := S.1
  have hb := S.2.1
  have hl : lv_has ls 2 [(0, .ref (o 0)), (1, .int p0)] := hl
  refine lv_aload_n hx hb dX10_isHour_0 rfl (lv_at hl 0 rfl) ?_
  refine x_roVi (As := []) S hK hP hS hA hl mwX10_isGarden lkX10_196 (ctX10_isGarden l D k o ) [0, 1] rfl (hDW.sub [0, 1] (by decide) rfl) rfl rfl rfl rfl rfl ⟨Nat.le_of_ble_eq_true rfl, Nat.le_of_ble_eq_true rfl, Nat.le_of_ble_eq_true rfl⟩ dX10_isHour_1 ⟨Nat.le_of_ble_eq_true rfl, Nat.le_of_ble_eq_true rfl⟩ (fun r1 H locs hr1 hP hS => ?_)
  subst hr1
  refine lv_if_eq (tgt := 26) hx hb dX10_isHour_4 (by decide) (fun c2 => ?_) (fun c2 => absurd (by decide) c2)
  refine lv_iconst (v := 0) hx hb dX10_isHour_26 (by decide) ?_
  exact x_retz S hr hlk hQ hS rfl () rfl x_T dX10_isHour_27

set_option maxHeartbeats 4000000 in
set_option maxRecDepth 100000 in
theorem ctX10_near (l : Launch) (D : va_G) (k : Nat → ClassId) (o : Nat → Nat) (p0 : Int32)  : RO l yX10_near cX10_near 2 (some .int) 2 D k [.ref (o 0), .int p0] [((o 0), .inr (10, [.ref (o 1), .ref (o 2), .ref (o 3), .ref (o 4), .ref (o 5), .ref (o 6), .ref (o 7), .ref (o 8), .ref (o 9), .ref (o 10), .ref (o 11), .ref (o 12), .ref (o 13), .ref (o 14)])), ((o 3), .inr (2, [.int 0, .int 0, .int 0, .int 0, .int 0, .int 0, .int 0, .int 0, .int 0, .ref (o 26), .ref (o 27), .ref (o 28), .ref (o 29), .ref (o 30), .ref (o 31), .ref (o 32), .ref (o 33), .ref (o 34), .ref (o 35)]))] (Qi (fun r : Int32 => r = (-2))) := by
  refine RO.of (by decide) (Nat.le_of_ble_eq_true rfl) ?_
  intro p e s m below meth c ls A args Q S hr hlk hQ hK hP hDW hA hS hl
  have hx := S.1
  have hb := S.2.1
  have hl : lv_has ls 2 [(0, .ref (o 0)), (1, .int p0)] := hl
  refine lv_aload_n hx hb dX10_near_0 rfl (lv_at hl 0 rfl) ?_
  refine lv_iload_n hx hb dX10_near_1 rfl (lv_at hl 1 rfl) ?_
  refine x_roVi (As := [.int p0]) S hK hP hS hA hl mwX10_isHead lkX10_135 (ctX10_isHead l D k o p0 ) [0, 1] rfl (hDW.sub [0, 1] (by decide) rfl) rfl rfl rfl rfl rfl ⟨Nat.le_of_ble_eq_true rfl, Nat.le_of_ble_eq_true rfl, Nat.le_of_ble_eq_true rfl⟩ dX10_near_2 ⟨Nat.le_of_ble_eq_true rfl, Nat.le_of_ble_eq_true rfl⟩ (fun r1 H locs hr1 hP hS => ?_)
  subst hr1
  refine lv_if_eq (tgt := 20) hx hb dX10_near_5 (by decide) (fun c2 => ?_) (fun c2 => absurd (by decide) c2)
  refine lv_bipush (v := (-2)) hx hb dX10_near_20 (by decide) ?_
  exact x_reti S hr hlk hQ hS () rfl x_T dX10_near_22

set_option maxHeartbeats 4000000 in
set_option maxRecDepth 100000 in
theorem ctX10_view (l : Launch) (D : va_G) (k : Nat → ClassId) (o : Nat → Nat) (p0 : Int32) (p1 : Int32)  : RO l yX10_view cX10_view 3 (some .int) 2 D k [.ref (o 0), .int p0, .int p1] [((o 0), .inr (10, [.ref (o 1), .ref (o 2), .ref (o 3), .ref (o 4), .ref (o 5), .ref (o 6), .ref (o 7), .ref (o 8), .ref (o 9), .ref (o 10), .ref (o 11), .ref (o 12), .ref (o 13), .ref (o 14)])), ((o 3), .inr (2, [.int 0, .int 0, .int 0, .int 0, .int 0, .int 0, .int 0, .int 0, .int 0, .ref (o 26), .ref (o 27), .ref (o 28), .ref (o 29), .ref (o 30), .ref (o 31), .ref (o 32), .ref (o 33), .ref (o 34), .ref (o 35)]))] (Qi (fun r : Int32 => r = (-2))) := by
  refine RO.of (by decide) (Nat.le_of_ble_eq_true rfl) ?_
  intro p e s m below meth c ls A args Q S hr hlk hQ hK hP hDW hA hS hl
  have hx := S.1
  have hb := S.2.1
  have hl : lv_has ls 3 [(0, .ref (o 0)), (1, .int p0), (2, .int p1)] := hl
  refine lv_aload_n hx hb dX10_view_0 rfl (lv_at hl 0 rfl) ?_
  refine lv_iload_n hx hb dX10_view_1 rfl (lv_at hl 1 rfl) ?_
  refine x_roVi (As := [.int p0]) S hK hP hS hA hl mwX10_isHead lkX10_135 (ctX10_isHead l D k o p0 ) [0, 1] rfl (hDW.sub [0, 1] (by decide) rfl) rfl rfl rfl rfl rfl ⟨Nat.le_of_ble_eq_true rfl, Nat.le_of_ble_eq_true rfl, Nat.le_of_ble_eq_true rfl⟩ dX10_view_2 ⟨Nat.le_of_ble_eq_true rfl, Nat.le_of_ble_eq_true rfl⟩ (fun r1 H locs hr1 hP hS => ?_)
  subst hr1
  refine lv_if_eq (tgt := 28) hx hb dX10_view_5 (by decide) (fun c2 => ?_) (fun c2 => absurd (by decide) c2)
  refine lv_bipush (v := (-2)) hx hb dX10_view_28 (by decide) ?_
  exact x_reti S hr hlk hQ hS () rfl x_T dX10_view_30

set_option maxHeartbeats 4000000 in
set_option maxRecDepth 100000 in
theorem ctX10_holding (l : Launch) (D : va_G) (k : Nat → ClassId) (o : Nat → Nat) (p0 : Int32) (p1 : Int32)  : RO l yX10_holding cX10_holding 3 (some .int) 2 D k [.ref (o 0), .int p0, .int p1] [((o 0), .inr (10, [.ref (o 1), .ref (o 2), .ref (o 3), .ref (o 4), .ref (o 5), .ref (o 6), .ref (o 7), .ref (o 8), .ref (o 9), .ref (o 10), .ref (o 11), .ref (o 12), .ref (o 13), .ref (o 14)])), ((o 3), .inr (2, [.int 0, .int 0, .int 0, .int 0, .int 0, .int 0, .int 0, .int 0, .int 0, .ref (o 26), .ref (o 27), .ref (o 28), .ref (o 29), .ref (o 30), .ref (o 31), .ref (o 32), .ref (o 33), .ref (o 34), .ref (o 35)]))] (Qi (fun r : Int32 => r = (-2))) := by
  refine RO.of (by decide) (Nat.le_of_ble_eq_true rfl) ?_
  intro p e s m below meth c ls A args Q S hr hlk hQ hK hP hDW hA hS hl
  have hx := S.1
  have hb := S.2.1
  have hl : lv_has ls 3 [(0, .ref (o 0)), (1, .int p0), (2, .int p1)] := hl
  refine lv_iload_n hx hb dX10_holding_0 rfl (lv_at hl 1 rfl) ?_
  refine x_roSi (As := [.int p0]) S hK hP hS hA hl mwX10_isAnyView lkX10_168 (ctX10_isAnyView l D k p0 ) [] rfl D_nil rfl rfl ⟨Nat.le_of_ble_eq_true rfl, Nat.le_of_ble_eq_true rfl, Nat.le_of_ble_eq_true rfl⟩ dX10_holding_1 ⟨Nat.le_of_ble_eq_true rfl, Nat.le_of_ble_eq_true rfl⟩ (fun r1 H locs hr1 hP hS => ?_)
  refine lv_if_eq (tgt := 27) hx hb dX10_holding_4 (by decide) (fun c2 => ?_) (fun c2 => ?_)
  · skip
    refine lv_bipush (v := (-2)) hx hb dX10_holding_27 (by decide) ?_
    exact x_reti S hr hlk hQ hS () rfl x_T dX10_holding_29
  · skip
    refine lv_aload_n hx hb dX10_holding_7 rfl (lv_at hl 0 rfl) ?_
    refine lv_iload_n hx hb dX10_holding_8 rfl (lv_at hl 2 rfl) ?_
    refine x_roVi (As := [.int p1]) S hK hP hS hA hl mwX10_isHour lkX10_161 (ctX10_isHour l D k o p1 ) [0, 1] rfl (hDW.sub [0, 1] (by decide) rfl) rfl rfl rfl rfl rfl ⟨Nat.le_of_ble_eq_true rfl, Nat.le_of_ble_eq_true rfl, Nat.le_of_ble_eq_true rfl⟩ dX10_holding_9 ⟨Nat.le_of_ble_eq_true rfl, Nat.le_of_ble_eq_true rfl⟩ (fun r3 H locs hr3 hP hS => ?_)
    subst hr3
    refine lv_if_eq (tgt := 27) hx hb dX10_holding_12 (by decide) (fun c4 => ?_) (fun c4 => absurd (by decide) c4)
    refine lv_bipush (v := (-2)) hx hb dX10_holding_27 (by decide) ?_
    exact x_reti S hr hlk hQ hS () rfl x_T dX10_holding_29
