theorem dX10_retell_0 : decode cX10_retell 0 = .ok (.aload_n 0, 1) := by decide +kernel
theorem dX10_retell_1 : decode cX10_retell 1 = .ok (.getfield 29, 3) := by decide +kernel
theorem dX10_retell_4 : decode cX10_retell 4 = .ok (.aload_n 0, 1) := by decide +kernel
theorem dX10_retell_5 : decode cX10_retell 5 = .ok (.getfield 23, 3) := by decide +kernel
theorem dX10_retell_8 : decode cX10_retell 8 = .ok (.invokevirtual 472, 3) := by decide +kernel
theorem dX10_retell_11 : decode cX10_retell 11 = .ok (.aload_n 0, 1) := by decide +kernel
theorem dX10_retell_12 : decode cX10_retell 12 = .ok (.getfield 38, 3) := by decide +kernel
theorem dX10_retell_15 : decode cX10_retell 15 = .ok (.invokevirtual 475, 3) := by decide +kernel
theorem dX10_retell_18 : decode cX10_retell 18 = .ok (.aload_n 0, 1) := by decide +kernel
theorem dX10_retell_19 : decode cX10_retell 19 = .ok (.getfield 38, 3) := by decide +kernel
theorem dX10_retell_22 : decode cX10_retell 22 = .ok (.invokevirtual 359, 3) := by decide +kernel
theorem dX10_retell_25 : decode cX10_retell 25 = .ok (.aload_n 0, 1) := by decide +kernel
theorem dX10_retell_26 : decode cX10_retell 26 = .ok (.getfield 57, 3) := by decide +kernel
theorem dX10_retell_29 : decode cX10_retell 29 = .ok (.invokevirtual 478, 3) := by decide +kernel
theorem dX10_retell_32 : decode cX10_retell 32 = .ok (.aload_n 0, 1) := by decide +kernel
theorem dX10_retell_33 : decode cX10_retell 33 = .ok (.getfield 66, 3) := by decide +kernel
theorem dX10_retell_36 : decode cX10_retell 36 = .ok (.invokevirtual 481, 3) := by decide +kernel
theorem dX10_retell_39 : decode cX10_retell 39 = .ok (.return_, 1) := by decide +kernel
theorem dX10_isGarden_0 : decode cX10_isGarden 0 = .ok (.aload_n 0, 1) := by decide +kernel
theorem dX10_isGarden_1 : decode cX10_isGarden 1 = .ok (.getfield 23, 3) := by decide +kernel
theorem dX10_isGarden_4 : decode cX10_isGarden 4 = .ok (.getfield 126, 3) := by decide +kernel
theorem dX10_isGarden_7 : decode cX10_isGarden 7 = .ok (.ifCond .le 7, 3) := by decide +kernel
theorem dX10_isGarden_10 : decode cX10_isGarden 10 = .ok (.iconst 1, 1) := by decide +kernel
theorem dX10_isGarden_11 : decode cX10_isGarden 11 = .ok (.goto 4, 3) := by decide +kernel
theorem dX10_isGarden_14 : decode cX10_isGarden 14 = .ok (.iconst 0, 1) := by decide +kernel
theorem dX10_isGarden_15 : decode cX10_isGarden 15 = .ok (.ireturn, 1) := by decide +kernel
theorem dX10_isHead_0 : decode cX10_isHead 0 = .ok (.iload_n 1, 1) := by decide +kernel
theorem dX10_isHead_1 : decode cX10_isHead 1 = .ok (.ifCond .lt 18, 3) := by decide +kernel
theorem dX10_isHead_4 : decode cX10_isHead 4 = .ok (.iload_n 1, 1) := by decide +kernel
theorem dX10_isHead_5 : decode cX10_isHead 5 = .ok (.aload_n 0, 1) := by decide +kernel
theorem dX10_isHead_6 : decode cX10_isHead 6 = .ok (.getfield 23, 3) := by decide +kernel
theorem dX10_isHead_9 : decode cX10_isHead 9 = .ok (.getfield 296, 3) := by decide +kernel
theorem dX10_isHead_12 : decode cX10_isHead 12 = .ok (.if_icmp .ge 7, 3) := by decide +kernel
theorem dX10_isHead_15 : decode cX10_isHead 15 = .ok (.iconst 1, 1) := by decide +kernel
theorem dX10_isHead_16 : decode cX10_isHead 16 = .ok (.goto 4, 3) := by decide +kernel
theorem dX10_isHead_19 : decode cX10_isHead 19 = .ok (.iconst 0, 1) := by decide +kernel
theorem dX10_isHead_20 : decode cX10_isHead 20 = .ok (.ireturn, 1) := by decide +kernel
theorem dX10_isRow_0 : decode cX10_isRow 0 = .ok (.iload_n 1, 1) := by decide +kernel
theorem dX10_isRow_1 : decode cX10_isRow 1 = .ok (.ifCond .lt 18, 3) := by decide +kernel
theorem dX10_isRow_4 : decode cX10_isRow 4 = .ok (.iload_n 1, 1) := by decide +kernel
theorem dX10_isRow_5 : decode cX10_isRow 5 = .ok (.aload_n 0, 1) := by decide +kernel
theorem dX10_isRow_6 : decode cX10_isRow 6 = .ok (.getfield 23, 3) := by decide +kernel
theorem dX10_isRow_9 : decode cX10_isRow 9 = .ok (.getfield 423, 3) := by decide +kernel
theorem dX10_isRow_12 : decode cX10_isRow 12 = .ok (.if_icmp .ge 7, 3) := by decide +kernel
theorem dX10_isRow_15 : decode cX10_isRow 15 = .ok (.iconst 1, 1) := by decide +kernel
theorem dX10_isRow_16 : decode cX10_isRow 16 = .ok (.goto 4, 3) := by decide +kernel
theorem dX10_isRow_19 : decode cX10_isRow 19 = .ok (.iconst 0, 1) := by decide +kernel
theorem dX10_isRow_20 : decode cX10_isRow 20 = .ok (.ireturn, 1) := by decide +kernel
theorem dX10_isHour_0 : decode cX10_isHour 0 = .ok (.aload_n 0, 1) := by decide +kernel
theorem dX10_isHour_1 : decode cX10_isHour 1 = .ok (.invokevirtual 196, 3) := by decide +kernel
theorem dX10_isHour_4 : decode cX10_isHour 4 = .ok (.ifCond .eq 22, 3) := by decide +kernel
theorem dX10_isHour_7 : decode cX10_isHour 7 = .ok (.iload_n 1, 1) := by decide +kernel
theorem dX10_isHour_8 : decode cX10_isHour 8 = .ok (.ifCond .lt 18, 3) := by decide +kernel
theorem dX10_isHour_11 : decode cX10_isHour 11 = .ok (.iload_n 1, 1) := by decide +kernel
theorem dX10_isHour_12 : decode cX10_isHour 12 = .ok (.aload_n 0, 1) := by decide +kernel
theorem dX10_isHour_13 : decode cX10_isHour 13 = .ok (.getfield 23, 3) := by decide +kernel
theorem dX10_isHour_16 : decode cX10_isHour 16 = .ok (.getfield 401, 3) := by decide +kernel
theorem dX10_isHour_19 : decode cX10_isHour 19 = .ok (.if_icmp .gt 7, 3) := by decide +kernel
theorem dX10_isHour_22 : decode cX10_isHour 22 = .ok (.iconst 1, 1) := by decide +kernel
theorem dX10_isHour_23 : decode cX10_isHour 23 = .ok (.goto 4, 3) := by decide +kernel
theorem dX10_isHour_26 : decode cX10_isHour 26 = .ok (.iconst 0, 1) := by decide +kernel
theorem dX10_isHour_27 : decode cX10_isHour 27 = .ok (.ireturn, 1) := by decide +kernel
theorem dX10_isWetHour_0 : decode cX10_isWetHour 0 = .ok (.aload_n 0, 1) := by decide +kernel
theorem dX10_isWetHour_1 : decode cX10_isWetHour 1 = .ok (.iload_n 1, 1) := by decide +kernel
theorem dX10_isWetHour_2 : decode cX10_isWetHour 2 = .ok (.invokevirtual 161, 3) := by decide +kernel
theorem dX10_isWetHour_5 : decode cX10_isWetHour 5 = .ok (.ifCond .eq 24, 3) := by decide +kernel
theorem dX10_isWetHour_8 : decode cX10_isWetHour 8 = .ok (.iload_n 1, 1) := by decide +kernel
theorem dX10_isWetHour_9 : decode cX10_isWetHour 9 = .ok (.bipush 7, 2) := by decide +kernel
theorem dX10_isWetHour_11 : decode cX10_isWetHour 11 = .ok (.if_icmp .gt 18, 3) := by decide +kernel
theorem dX10_isWetHour_14 : decode cX10_isWetHour 14 = .ok (.iload_n 1, 1) := by decide +kernel
theorem dX10_isWetHour_15 : decode cX10_isWetHour 15 = .ok (.aload_n 0, 1) := by decide +kernel
theorem dX10_isWetHour_16 : decode cX10_isWetHour 16 = .ok (.getfield 23, 3) := by decide +kernel
theorem dX10_isWetHour_19 : decode cX10_isWetHour 19 = .ok (.getfield 401, 3) := by decide +kernel
theorem dX10_isWetHour_22 : decode cX10_isWetHour 22 = .ok (.if_icmp .ge 7, 3) := by decide +kernel
theorem dX10_isWetHour_25 : decode cX10_isWetHour 25 = .ok (.iconst 1, 1) := by decide +kernel
theorem dX10_isWetHour_26 : decode cX10_isWetHour 26 = .ok (.goto 4, 3) := by decide +kernel
theorem dX10_isWetHour_29 : decode cX10_isWetHour 29 = .ok (.iconst 0, 1) := by decide +kernel
theorem dX10_isWetHour_30 : decode cX10_isWetHour 30 = .ok (.ireturn, 1) := by decide +kernel
theorem dX10_isPair_0 : decode cX10_isPair 0 = .ok (.aload_n 0, 1) := by decide +kernel
theorem dX10_isPair_1 : decode cX10_isPair 1 = .ok (.iload_n 1, 1) := by decide +kernel
theorem dX10_isPair_2 : decode cX10_isPair 2 = .ok (.invokevirtual 135, 3) := by decide +kernel
theorem dX10_isPair_5 : decode cX10_isPair 5 = .ok (.ifCond .eq 20, 3) := by decide +kernel
theorem dX10_isPair_8 : decode cX10_isPair 8 = .ok (.aload_n 0, 1) := by decide +kernel
theorem dX10_isPair_9 : decode cX10_isPair 9 = .ok (.iload_n 2, 1) := by decide +kernel
theorem dX10_isPair_10 : decode cX10_isPair 10 = .ok (.invokevirtual 135, 3) := by decide +kernel
theorem dX10_isPair_13 : decode cX10_isPair 13 = .ok (.ifCond .eq 12, 3) := by decide +kernel
theorem dX10_isPair_16 : decode cX10_isPair 16 = .ok (.iload_n 1, 1) := by decide +kernel
theorem dX10_isPair_17 : decode cX10_isPair 17 = .ok (.iload_n 2, 1) := by decide +kernel
theorem dX10_isPair_18 : decode cX10_isPair 18 = .ok (.if_icmp .eq 7, 3) := by decide +kernel
theorem dX10_isPair_21 : decode cX10_isPair 21 = .ok (.iconst 1, 1) := by decide +kernel
theorem dX10_isPair_22 : decode cX10_isPair 22 = .ok (.goto 4, 3) := by decide +kernel
theorem dX10_isPair_25 : decode cX10_isPair 25 = .ok (.iconst 0, 1) := by decide +kernel
theorem dX10_isPair_26 : decode cX10_isPair 26 = .ok (.ireturn, 1) := by decide +kernel
set_option maxHeartbeats 4000000 in
set_option maxRecDepth 100000 in
theorem ctX10_retell (l : Launch) (D : va_G) (k : Nat → ClassId) (z : Nat → Nat) (o : Nat → Nat) (f69 : Nat → Int32) (f70 : Nat → Int32) (f71 : Nat → Int32) (clawNow : Int32) (charder : Int32) (ctold : Int32) (creply : Int32) (cwet : Int32) (f72 : Nat → Int32) (f74 : Nat → Int32) (f76 : Nat → Int32) (kopener : Int32) (kworth : Int32) (glines : Int32) (ghours : Nat) (glaw : Int32) (godds : Int32) (grows : Nat) (gheads : Nat) (gsayings : Nat) (gslugs : Nat) (gacts : Nat) (f26 : Nat → Int32) (f27 : Nat → Int32) (f30 : Nat → Int32) (f31 : Nat → Int32) (f33 : Nat → Int32) (f34 : Nat → Int32) (f35 : Nat → Int32) (hghours : ghours ≤ 16) (hgrows : grows ≤ 4) (hgheads : gheads ≤ 12) (hgsayings : gsayings ≤ 8) (hgslugs : gslugs ≤ 4) (hgacts : gacts ≤ 30) : MU l yX10_retell cX10_retell 1 none 4 D k z [.ref (o 0)] [((o 0), .inr (10, [.ref (o 1), .ref (o 2), .ref (o 3), .ref (o 4), .ref (o 5), .ref (o 6), .ref (o 7), .ref (o 8), .ref (o 9), .ref (o 10), .ref (o 11), .ref (o 12), .ref (o 13), .ref (o 14)])), ((o 4), .inr (3, [.ref (o 69), .ref (o 70), .ref (o 71)])), ((o 69), .inl (k 0, 17, .inl f69)), ((o 70), .inl (k 0, 17, .inl f70)), ((o 71), .inl (k 0, 17, .inl f71)), ((o 5), .inr (1, [.ref (o 3), .ref (o 4), .int clawNow, .int charder, .int ctold, .int creply, .int cwet, .ref (o 72)])), ((o 72), .inl (k 0, 17, .inl f72)), ((o 8), .inr (8, [.ref (o 3), .ref (o 4), .ref (o 6), .ref (o 74), .ref (o 75), .ref (o 76)])), ((o 74), .inl (k 0, 3, .inl f74)), ((o 76), .inl (k 3, 3, .inl f76)), ((o 9), .inr (0, [.ref (o 3), .ref (o 6), .int kopener, .int kworth])), ((o 3), .inr (2, [.int glines, .int (nI ghours), .int glaw, .int godds, .int (nI grows), .int (nI gheads), .int (nI gsayings), .int (nI gslugs), .int (nI gacts), .ref (o 26), .ref (o 27), .ref (o 28), .ref (o 29), .ref (o 30), .ref (o 31), .ref (o 32), .ref (o 33), .ref (o 34), .ref (o 35)])), ((o 26), .inl (k 0, 12, .inl f26)), ((o 27), .inl (k 0, 12, .inl f27)), ((o 30), .inl (k 0, 12, .inl f30)), ((o 31), .inl (k 0, 12, .inl f31)), ((o 33), .inl (k 0, 42, .inl f33)), ((o 34), .inl (k 0, 42, .inl f34)), ((o 35), .inl (k 0, 42, .inl f35))] 0 0 (Uv D (fun _ : (Nat → Int32) × (Nat → Nat) × (Nat → Nat → Int32) × (Nat → Nat → Int64) × (Nat → Int64) => True) (fun u : (Nat → Int32) × (Nat → Nat) × (Nat → Nat → Int32) × (Nat → Nat → Int64) × (Nat → Int64) => [((o 0), .inr (10, [.ref (o 1), .ref (o 2), .ref (o 3), .ref (o 4), .ref (o 5), .ref (o 6), .ref (o 7), .ref (o 8), .ref (o 9), .ref (o 10), .ref (o 11), .ref (o 12), .ref (o 13), .ref (o 14)])), ((o 4), .inr (3, [.ref (o 69), .ref (o 70), .ref (o 71)])), ((o 69), .inl (k 0, 17, .inl (u.2.2.1 0))), ((o 70), .inl (k 0, 17, .inl (u.2.2.1 1))), ((o 71), .inl (k 0, 17, .inl (u.2.2.1 2))), ((o 5), .inr (1, [.ref (o 3), .ref (o 4), .int (u.1 0), .int (u.1 1), .int (u.1 2), .int (u.1 3), .int (u.1 4), .ref (o 72)])), ((o 72), .inl (k 0, 17, .inl (u.2.2.1 3))), ((o 8), .inr (8, [.ref (o 3), .ref (o 4), .ref (o 6), .ref (o 74), .ref (o 75), .ref (o 76)])), ((o 74), .inl (k 0, 3, .inl (u.2.2.1 4))), ((o 76), .inl (k 3, 3, .inl (u.2.2.1 5))), ((o 9), .inr (0, [.ref (o 3), .ref (o 6), .int (u.1 5), .int kworth])), ((o 3), .inr (2, [.int glines, .int (nI ghours), .int glaw, .int godds, .int (nI grows), .int (nI gheads), .int (nI gsayings), .int (nI gslugs), .int (nI gacts), .ref (o 26), .ref (o 27), .ref (o 28), .ref (o 29), .ref (o 30), .ref (o 31), .ref (o 32), .ref (o 33), .ref (o 34), .ref (o 35)])), ((o 26), .inl (k 0, 12, .inl f26)), ((o 27), .inl (k 0, 12, .inl f27)), ((o 30), .inl (k 0, 12, .inl f30)), ((o 31), .inl (k 0, 12, .inl f31)), ((o 33), .inl (k 0, 42, .inl f33)), ((o 34), .inl (k 0, 42, .inl f34)), ((o 35), .inl (k 0, 42, .inl f35))])) := by
  refine MU.of (by decide) (Nat.le_of_ble_eq_true rfl) ?_
  intro p e s m below meth c ls A args Q S hr hlk hnm hQ hK hP hD hZ hA hS hl
  have hx := S.1
  have hb := S.2.1
  have hl : lv_has ls 1 [(0, .ref (o 0))] := hl
  refine lv_aload_n hx hb dX10_retell_0 rfl (lv_at hl 0 rfl) ?_
  refine x_get S hK hP 0 rfl cfX10 3 lkX10_29 (by decide) rfl dX10_retell_1 ?_
  refine lv_aload_n hx hb dX10_retell_4 rfl (lv_at hl 0 rfl) ?_
  refine x_get S hK hP 0 rfl cfX10 2 lkX10_23 (by decide) rfl dX10_retell_5 ?_
  refine x_muVv (wr := [((o 0), .inr (10, [.ref (o 1), .ref (o 2), .ref (o 3), .ref (o 4), .ref (o 5), .ref (o 6), .ref (o 7), .ref (o 8), .ref (o 9), .ref (o 10), .ref (o 11), .ref (o 12), .ref (o 13), .ref (o 14)])), ((o 5), .inr (1, [.ref (o 3), .ref (o 4), .int clawNow, .int charder, .int ctold, .int creply, .int cwet, .ref (o 72)])), ((o 72), .inl (k 0, 17, .inl f72)), ((o 8), .inr (8, [.ref (o 3), .ref (o 4), .ref (o 6), .ref (o 74), .ref (o 75), .ref (o 76)])), ((o 74), .inl (k 0, 3, .inl f74)), ((o 76), .inl (k 3, 3, .inl f76)), ((o 9), .inr (0, [.ref (o 3), .ref (o 6), .int kopener, .int kworth])), ((o 26), .inl (k 0, 12, .inl f26)), ((o 30), .inl (k 0, 12, .inl f30)), ((o 31), .inl (k 0, 12, .inl f31))]) (As := [.ref (o 3)]) S hK hP hD hZ hS hA hl mwX3_make lkX10_472 (ctX3_make l D k z o f69 f70 f71 glines ghours glaw godds grows gheads gsayings gslugs gacts f27 f33 f34 f35 (by omega) (by omega) (by omega) (by omega) (by omega) (by omega)) [1, 2, 3, 4, 11, 13, 16, 17, 18] [0, 5, 6, 7, 8, 9, 10, 12, 14, 15] rfl rfl (by decide) (by decide) (by decide) rfl rfl rfl rfl rfl ⟨Nat.le_of_ble_eq_true rfl, Nat.le_of_ble_eq_true rfl, Nat.le_of_ble_eq_true rfl⟩ dX10_retell_8 ⟨Nat.le_of_ble_eq_true rfl, Nat.le_of_ble_eq_true rfl⟩ (fun u_2 H locs hr_1 hP hD hS => ?_)
  have hP : va_P D vwCl [((o 0), .inr (10, [.ref (o 1), .ref (o 2), .ref (o 3), .ref (o 4), .ref (o 5), .ref (o 6), .ref (o 7), .ref (o 8), .ref (o 9), .ref (o 10), .ref (o 11), .ref (o 12), .ref (o 13), .ref (o 14)])), ((o 4), .inr (3, [.ref (o 69), .ref (o 70), .ref (o 71)])), ((o 69), .inl (k 0, 17, .inl (u_2.2.2.1 0))), ((o 70), .inl (k 0, 17, .inl (u_2.2.2.1 1))), ((o 71), .inl (k 0, 17, .inl (u_2.2.2.1 2))), ((o 5), .inr (1, [.ref (o 3), .ref (o 4), .int clawNow, .int charder, .int ctold, .int creply, .int cwet, .ref (o 72)])), ((o 72), .inl (k 0, 17, .inl f72)), ((o 8), .inr (8, [.ref (o 3), .ref (o 4), .ref (o 6), .ref (o 74), .ref (o 75), .ref (o 76)])), ((o 74), .inl (k 0, 3, .inl f74)), ((o 76), .inl (k 3, 3, .inl f76)), ((o 9), .inr (0, [.ref (o 3), .ref (o 6), .int kopener, .int kworth])), ((o 3), .inr (2, [.int glines, .int (nI ghours), .int glaw, .int godds, .int (nI grows), .int (nI gheads), .int (nI gsayings), .int (nI gslugs), .int (nI gacts), .ref (o 26), .ref (o 27), .ref (o 28), .ref (o 29), .ref (o 30), .ref (o 31), .ref (o 32), .ref (o 33), .ref (o 34), .ref (o 35)])), ((o 26), .inl (k 0, 12, .inl f26)), ((o 27), .inl (k 0, 12, .inl f27)), ((o 30), .inl (k 0, 12, .inl f30)), ((o 31), .inl (k 0, 12, .inl f31)), ((o 33), .inl (k 0, 42, .inl f33)), ((o 34), .inl (k 0, 42, .inl f34)), ((o 35), .inl (k 0, 42, .inl f35))] H := hP.sub [0, 10, 11, 12, 13, 1, 2, 3, 4, 5, 6, 14, 7, 15, 8, 9, 16, 17, 18] rfl
  have hD : va_D A [((o 0), .inr (10, [.ref (o 1), .ref (o 2), .ref (o 3), .ref (o 4), .ref (o 5), .ref (o 6), .ref (o 7), .ref (o 8), .ref (o 9), .ref (o 10), .ref (o 11), .ref (o 12), .ref (o 13), .ref (o 14)])), ((o 4), .inr (3, [.ref (o 69), .ref (o 70), .ref (o 71)])), ((o 69), .inl (k 0, 17, .inl (u_2.2.2.1 0))), ((o 70), .inl (k 0, 17, .inl (u_2.2.2.1 1))), ((o 71), .inl (k 0, 17, .inl (u_2.2.2.1 2))), ((o 5), .inr (1, [.ref (o 3), .ref (o 4), .int clawNow, .int charder, .int ctold, .int creply, .int cwet, .ref (o 72)])), ((o 72), .inl (k 0, 17, .inl f72)), ((o 8), .inr (8, [.ref (o 3), .ref (o 4), .ref (o 6), .ref (o 74), .ref (o 75), .ref (o 76)])), ((o 74), .inl (k 0, 3, .inl f74)), ((o 76), .inl (k 3, 3, .inl f76)), ((o 9), .inr (0, [.ref (o 3), .ref (o 6), .int kopener, .int kworth])), ((o 3), .inr (2, [.int glines, .int (nI ghours), .int glaw, .int godds, .int (nI grows), .int (nI gheads), .int (nI gsayings), .int (nI gslugs), .int (nI gacts), .ref (o 26), .ref (o 27), .ref (o 28), .ref (o 29), .ref (o 30), .ref (o 31), .ref (o 32), .ref (o 33), .ref (o 34), .ref (o 35)])), ((o 26), .inl (k 0, 12, .inl f26)), ((o 27), .inl (k 0, 12, .inl f27)), ((o 30), .inl (k 0, 12, .inl f30)), ((o 31), .inl (k 0, 12, .inl f31)), ((o 33), .inl (k 0, 42, .inl f33)), ((o 34), .inl (k 0, 42, .inl f34)), ((o 35), .inl (k 0, 42, .inl f35))] := hD.sub [0, 10, 11, 12, 13, 1, 2, 3, 4, 5, 6, 14, 7, 15, 8, 9, 16, 17, 18] (by decide) rfl
  refine lv_aload_n hx hb dX10_retell_11 rfl (lv_at hl 0 rfl) ?_
  refine x_get S hK hP 0 rfl cfX10 4 lkX10_38 (by decide) rfl dX10_retell_12 ?_
  refine x_muVv (wr := [((o 0), .inr (10, [.ref (o 1), .ref (o 2), .ref (o 3), .ref (o 4), .ref (o 5), .ref (o 6), .ref (o 7), .ref (o 8), .ref (o 9), .ref (o 10), .ref (o 11), .ref (o 12), .ref (o 13), .ref (o 14)])), ((o 8), .inr (8, [.ref (o 3), .ref (o 4), .ref (o 6), .ref (o 74), .ref (o 75), .ref (o 76)])), ((o 74), .inl (k 0, 3, .inl f74)), ((o 76), .inl (k 3, 3, .inl f76)), ((o 9), .inr (0, [.ref (o 3), .ref (o 6), .int kopener, .int kworth])), ((o 27), .inl (k 0, 12, .inl f27)), ((o 33), .inl (k 0, 42, .inl f33)), ((o 34), .inl (k 0, 42, .inl f34)), ((o 35), .inl (k 0, 42, .inl f35))]) (As := []) S hK hP hD hZ hS hA hl mwX1_asItIs lkX10_475 (ctX1_asItIs_c l D k z o clawNow charder ctold creply cwet f72 (u_2.2.2.1 0) (u_2.2.2.1 1) (u_2.2.2.1 2) glines ghours glaw godds grows gheads gsayings gslugs gacts f26 f30 f31 (by omega) (by omega) (by omega) (by omega) (by omega) (by omega)) [5, 6, 1, 2, 3, 4, 11, 12, 14, 15] [0, 7, 8, 9, 10, 13, 16, 17, 18] rfl rfl (by decide) (by decide) (by decide) rfl rfl rfl rfl rfl ⟨Nat.le_of_ble_eq_true rfl, Nat.le_of_ble_eq_true rfl, Nat.le_of_ble_eq_true rfl⟩ dX10_retell_15 ⟨Nat.le_of_ble_eq_true rfl, Nat.le_of_ble_eq_true rfl⟩ (fun u_4 H locs hr_3 hP hD hS => ?_)
  have hP : va_P D vwCl [((o 0), .inr (10, [.ref (o 1), .ref (o 2), .ref (o 3), .ref (o 4), .ref (o 5), .ref (o 6), .ref (o 7), .ref (o 8), .ref (o 9), .ref (o 10), .ref (o 11), .ref (o 12), .ref (o 13), .ref (o 14)])), ((o 4), .inr (3, [.ref (o 69), .ref (o 70), .ref (o 71)])), ((o 69), .inl (k 0, 17, .inl (u_2.2.2.1 0))), ((o 70), .inl (k 0, 17, .inl (u_2.2.2.1 1))), ((o 71), .inl (k 0, 17, .inl (u_2.2.2.1 2))), ((o 5), .inr (1, [.ref (o 3), .ref (o 4), .int (u_4.1 0), .int (u_4.1 1), .int (u_4.1 2), .int (u_4.1 3), .int (u_4.1 4), .ref (o 72)])), ((o 72), .inl (k 0, 17, .inl f72)), ((o 8), .inr (8, [.ref (o 3), .ref (o 4), .ref (o 6), .ref (o 74), .ref (o 75), .ref (o 76)])), ((o 74), .inl (k 0, 3, .inl f74)), ((o 76), .inl (k 3, 3, .inl f76)), ((o 9), .inr (0, [.ref (o 3), .ref (o 6), .int kopener, .int kworth])), ((o 3), .inr (2, [.int glines, .int (nI ghours), .int glaw, .int godds, .int (nI grows), .int (nI gheads), .int (nI gsayings), .int (nI gslugs), .int (nI gacts), .ref (o 26), .ref (o 27), .ref (o 28), .ref (o 29), .ref (o 30), .ref (o 31), .ref (o 32), .ref (o 33), .ref (o 34), .ref (o 35)])), ((o 26), .inl (k 0, 12, .inl f26)), ((o 27), .inl (k 0, 12, .inl f27)), ((o 30), .inl (k 0, 12, .inl f30)), ((o 31), .inl (k 0, 12, .inl f31)), ((o 33), .inl (k 0, 42, .inl f33)), ((o 34), .inl (k 0, 42, .inl f34)), ((o 35), .inl (k 0, 42, .inl f35))] H := hP.sub [0, 11, 12, 13, 14, 9, 10, 1, 2, 3, 4, 15, 16, 5, 17, 18, 6, 7, 8] rfl
  have hD : va_D A [((o 0), .inr (10, [.ref (o 1), .ref (o 2), .ref (o 3), .ref (o 4), .ref (o 5), .ref (o 6), .ref (o 7), .ref (o 8), .ref (o 9), .ref (o 10), .ref (o 11), .ref (o 12), .ref (o 13), .ref (o 14)])), ((o 4), .inr (3, [.ref (o 69), .ref (o 70), .ref (o 71)])), ((o 69), .inl (k 0, 17, .inl (u_2.2.2.1 0))), ((o 70), .inl (k 0, 17, .inl (u_2.2.2.1 1))), ((o 71), .inl (k 0, 17, .inl (u_2.2.2.1 2))), ((o 5), .inr (1, [.ref (o 3), .ref (o 4), .int (u_4.1 0), .int (u_4.1 1), .int (u_4.1 2), .int (u_4.1 3), .int (u_4.1 4), .ref (o 72)])), ((o 72), .inl (k 0, 17, .inl f72)), ((o 8), .inr (8, [.ref (o 3), .ref (o 4), .ref (o 6), .ref (o 74), .ref (o 75), .ref (o 76)])), ((o 74), .inl (k 0, 3, .inl f74)), ((o 76), .inl (k 3, 3, .inl f76)), ((o 9), .inr (0, [.ref (o 3), .ref (o 6), .int kopener, .int kworth])), ((o 3), .inr (2, [.int glines, .int (nI ghours), .int glaw, .int godds, .int (nI grows), .int (nI gheads), .int (nI gsayings), .int (nI gslugs), .int (nI gacts), .ref (o 26), .ref (o 27), .ref (o 28), .ref (o 29), .ref (o 30), .ref (o 31), .ref (o 32), .ref (o 33), .ref (o 34), .ref (o 35)])), ((o 26), .inl (k 0, 12, .inl f26)), ((o 27), .inl (k 0, 12, .inl f27)), ((o 30), .inl (k 0, 12, .inl f30)), ((o 31), .inl (k 0, 12, .inl f31)), ((o 33), .inl (k 0, 42, .inl f33)), ((o 34), .inl (k 0, 42, .inl f34)), ((o 35), .inl (k 0, 42, .inl f35))] := hD.sub [0, 11, 12, 13, 14, 9, 10, 1, 2, 3, 4, 15, 16, 5, 17, 18, 6, 7, 8] (by decide) rfl
  refine lv_aload_n hx hb dX10_retell_18 rfl (lv_at hl 0 rfl) ?_
  refine x_get S hK hP 0 rfl cfX10 4 lkX10_38 (by decide) rfl dX10_retell_19 ?_
  refine x_muVv (wr := [((o 0), .inr (10, [.ref (o 1), .ref (o 2), .ref (o 3), .ref (o 4), .ref (o 5), .ref (o 6), .ref (o 7), .ref (o 8), .ref (o 9), .ref (o 10), .ref (o 11), .ref (o 12), .ref (o 13), .ref (o 14)])), ((o 8), .inr (8, [.ref (o 3), .ref (o 4), .ref (o 6), .ref (o 74), .ref (o 75), .ref (o 76)])), ((o 74), .inl (k 0, 3, .inl f74)), ((o 76), .inl (k 3, 3, .inl f76)), ((o 9), .inr (0, [.ref (o 3), .ref (o 6), .int kopener, .int kworth])), ((o 27), .inl (k 0, 12, .inl f27)), ((o 33), .inl (k 0, 42, .inl f33)), ((o 34), .inl (k 0, 42, .inl f34)), ((o 35), .inl (k 0, 42, .inl f35))]) (As := []) S hK hP hD hZ hS hA hl mwX1_run lkX10_359 (ctX1_run_c l D k z o (u_4.1 0) (u_4.1 1) (u_4.1 2) (u_4.1 3) (u_4.1 4) f72 (u_2.2.2.1 0) (u_2.2.2.1 1) (u_2.2.2.1 2) glines ghours glaw godds grows gheads gsayings gslugs gacts f26 f30 f31 (by omega) (by omega) (by omega) (by omega) (by omega) (by omega)) [5, 6, 1, 2, 3, 4, 11, 12, 14, 15] [0, 7, 8, 9, 10, 13, 16, 17, 18] rfl rfl (by decide) (by decide) (by decide) rfl rfl rfl rfl rfl ⟨Nat.le_of_ble_eq_true rfl, Nat.le_of_ble_eq_true rfl, Nat.le_of_ble_eq_true rfl⟩ dX10_retell_22 ⟨Nat.le_of_ble_eq_true rfl, Nat.le_of_ble_eq_true rfl⟩ (fun u_6 H locs hr_5 hP hD hS => ?_)
  have hP : va_P D vwCl [((o 0), .inr (10, [.ref (o 1), .ref (o 2), .ref (o 3), .ref (o 4), .ref (o 5), .ref (o 6), .ref (o 7), .ref (o 8), .ref (o 9), .ref (o 10), .ref (o 11), .ref (o 12), .ref (o 13), .ref (o 14)])), ((o 4), .inr (3, [.ref (o 69), .ref (o 70), .ref (o 71)])), ((o 69), .inl (k 0, 17, .inl (u_2.2.2.1 0))), ((o 70), .inl (k 0, 17, .inl (u_2.2.2.1 1))), ((o 71), .inl (k 0, 17, .inl (u_2.2.2.1 2))), ((o 5), .inr (1, [.ref (o 3), .ref (o 4), .int (u_4.1 0), .int (u_4.1 1), .int (u_4.1 2), .int (u_4.1 3), .int (u_4.1 4), .ref (o 72)])), ((o 72), .inl (k 0, 17, .inl (u_6.2.2.1 0))), ((o 8), .inr (8, [.ref (o 3), .ref (o 4), .ref (o 6), .ref (o 74), .ref (o 75), .ref (o 76)])), ((o 74), .inl (k 0, 3, .inl f74)), ((o 76), .inl (k 3, 3, .inl f76)), ((o 9), .inr (0, [.ref (o 3), .ref (o 6), .int kopener, .int kworth])), ((o 3), .inr (2, [.int glines, .int (nI ghours), .int glaw, .int godds, .int (nI grows), .int (nI gheads), .int (nI gsayings), .int (nI gslugs), .int (nI gacts), .ref (o 26), .ref (o 27), .ref (o 28), .ref (o 29), .ref (o 30), .ref (o 31), .ref (o 32), .ref (o 33), .ref (o 34), .ref (o 35)])), ((o 26), .inl (k 0, 12, .inl f26)), ((o 27), .inl (k 0, 12, .inl f27)), ((o 30), .inl (k 0, 12, .inl f30)), ((o 31), .inl (k 0, 12, .inl f31)), ((o 33), .inl (k 0, 42, .inl f33)), ((o 34), .inl (k 0, 42, .inl f34)), ((o 35), .inl (k 0, 42, .inl f35))] H := hP.sub [0, 11, 12, 13, 14, 9, 10, 1, 2, 3, 4, 15, 16, 5, 17, 18, 6, 7, 8] rfl
  have hD : va_D A [((o 0), .inr (10, [.ref (o 1), .ref (o 2), .ref (o 3), .ref (o 4), .ref (o 5), .ref (o 6), .ref (o 7), .ref (o 8), .ref (o 9), .ref (o 10), .ref (o 11), .ref (o 12), .ref (o 13), .ref (o 14)])), ((o 4), .inr (3, [.ref (o 69), .ref (o 70), .ref (o 71)])), ((o 69), .inl (k 0, 17, .inl (u_2.2.2.1 0))), ((o 70), .inl (k 0, 17, .inl (u_2.2.2.1 1))), ((o 71), .inl (k 0, 17, .inl (u_2.2.2.1 2))), ((o 5), .inr (1, [.ref (o 3), .ref (o 4), .int (u_4.1 0), .int (u_4.1 1), .int (u_4.1 2), .int (u_4.1 3), .int (u_4.1 4), .ref (o 72)])), ((o 72), .inl (k 0, 17, .inl (u_6.2.2.1 0))), ((o 8), .inr (8, [.ref (o 3), .ref (o 4), .ref (o 6), .ref (o 74), .ref (o 75), .ref (o 76)])), ((o 74), .inl (k 0, 3, .inl f74)), ((o 76), .inl (k 3, 3, .inl f76)), ((o 9), .inr (0, [.ref (o 3), .ref (o 6), .int kopener, .int kworth])), ((o 3), .inr (2, [.int glines, .int (nI ghours), .int glaw, .int godds, .int (nI grows), .int (nI gheads), .int (nI gsayings), .int (nI gslugs), .int (nI gacts), .ref (o 26), .ref (o 27), .ref (o 28), .ref (o 29), .ref (o 30), .ref (o 31), .ref (o 32), .ref (o 33), .ref (o 34), .ref (o 35)])), ((o 26), .inl (k 0, 12, .inl f26)), ((o 27), .inl (k 0, 12, .inl f27)), ((o 30), .inl (k 0, 12, .inl f30)), ((o 31), .inl (k 0, 12, .inl f31)), ((o 33), .inl (k 0, 42, .inl f33)), ((o 34), .inl (k 0, 42, .inl f34)), ((o 35), .inl (k 0, 42, .inl f35))] := hD.sub [0, 11, 12, 13, 14, 9, 10, 1, 2, 3, 4, 15, 16, 5, 17, 18, 6, 7, 8] (by decide) rfl
  refine lv_aload_n hx hb dX10_retell_25 rfl (lv_at hl 0 rfl) ?_
  refine x_get S hK hP 0 rfl cfX10 7 lkX10_57 (by decide) rfl dX10_retell_26 ?_
  refine x_muVv (wr := [((o 0), .inr (10, [.ref (o 1), .ref (o 2), .ref (o 3), .ref (o 4), .ref (o 5), .ref (o 6), .ref (o 7), .ref (o 8), .ref (o 9), .ref (o 10), .ref (o 11), .ref (o 12), .ref (o 13), .ref (o 14)])), ((o 4), .inr (3, [.ref (o 69), .ref (o 70), .ref (o 71)])), ((o 69), .inl (k 0, 17, .inl (u_2.2.2.1 0))), ((o 70), .inl (k 0, 17, .inl (u_2.2.2.1 1))), ((o 71), .inl (k 0, 17, .inl (u_2.2.2.1 2))), ((o 5), .inr (1, [.ref (o 3), .ref (o 4), .int (u_4.1 0), .int (u_4.1 1), .int (u_4.1 2), .int (u_4.1 3), .int (u_4.1 4), .ref (o 72)])), ((o 72), .inl (k 0, 17, .inl (u_6.2.2.1 0))), ((o 9), .inr (0, [.ref (o 3), .ref (o 6), .int kopener, .int kworth])), ((o 3), .inr (2, [.int glines, .int (nI ghours), .int glaw, .int godds, .int (nI grows), .int (nI gheads), .int (nI gsayings), .int (nI gslugs), .int (nI gacts), .ref (o 26), .ref (o 27), .ref (o 28), .ref (o 29), .ref (o 30), .ref (o 31), .ref (o 32), .ref (o 33), .ref (o 34), .ref (o 35)])), ((o 26), .inl (k 0, 12, .inl f26)), ((o 27), .inl (k 0, 12, .inl f27)), ((o 30), .inl (k 0, 12, .inl f30)), ((o 31), .inl (k 0, 12, .inl f31)), ((o 33), .inl (k 0, 42, .inl f33)), ((o 34), .inl (k 0, 42, .inl f34)), ((o 35), .inl (k 0, 42, .inl f35))]) (As := []) S hK hP hD hZ hS hA hl mwX8_forget lkX10_478 (ctX8_forget l D k z o f74 f76 ) [7, 8, 9] [0, 1, 2, 3, 4, 5, 6, 10, 11, 12, 13, 14, 15, 16, 17, 18] rfl rfl (by decide) (by decide) (by decide) rfl rfl rfl rfl rfl ⟨Nat.le_of_ble_eq_true rfl, Nat.le_of_ble_eq_true rfl, Nat.le_of_ble_eq_true rfl⟩ dX10_retell_29 ⟨Nat.le_of_ble_eq_true rfl, Nat.le_of_ble_eq_true rfl⟩ (fun u_8 H locs hr_7 hP hD hS => ?_)
  have hP : va_P D vwCl [((o 0), .inr (10, [.ref (o 1), .ref (o 2), .ref (o 3), .ref (o 4), .ref (o 5), .ref (o 6), .ref (o 7), .ref (o 8), .ref (o 9), .ref (o 10), .ref (o 11), .ref (o 12), .ref (o 13), .ref (o 14)])), ((o 4), .inr (3, [.ref (o 69), .ref (o 70), .ref (o 71)])), ((o 69), .inl (k 0, 17, .inl (u_2.2.2.1 0))), ((o 70), .inl (k 0, 17, .inl (u_2.2.2.1 1))), ((o 71), .inl (k 0, 17, .inl (u_2.2.2.1 2))), ((o 5), .inr (1, [.ref (o 3), .ref (o 4), .int (u_4.1 0), .int (u_4.1 1), .int (u_4.1 2), .int (u_4.1 3), .int (u_4.1 4), .ref (o 72)])), ((o 72), .inl (k 0, 17, .inl (u_6.2.2.1 0))), ((o 8), .inr (8, [.ref (o 3), .ref (o 4), .ref (o 6), .ref (o 74), .ref (o 75), .ref (o 76)])), ((o 74), .inl (k 0, 3, .inl (u_8.2.2.1 0))), ((o 76), .inl (k 3, 3, .inl (u_8.2.2.1 1))), ((o 9), .inr (0, [.ref (o 3), .ref (o 6), .int kopener, .int kworth])), ((o 3), .inr (2, [.int glines, .int (nI ghours), .int glaw, .int godds, .int (nI grows), .int (nI gheads), .int (nI gsayings), .int (nI gslugs), .int (nI gacts), .ref (o 26), .ref (o 27), .ref (o 28), .ref (o 29), .ref (o 30), .ref (o 31), .ref (o 32), .ref (o 33), .ref (o 34), .ref (o 35)])), ((o 26), .inl (k 0, 12, .inl f26)), ((o 27), .inl (k 0, 12, .inl f27)), ((o 30), .inl (k 0, 12, .inl f30)), ((o 31), .inl (k 0, 12, .inl f31)), ((o 33), .inl (k 0, 42, .inl f33)), ((o 34), .inl (k 0, 42, .inl f34)), ((o 35), .inl (k 0, 42, .inl f35))] H := hP.sub [0, 1, 2, 3, 4, 5, 6, 16, 17, 18, 7, 8, 9, 10, 11, 12, 13, 14, 15] rfl
  have hD : va_D A [((o 0), .inr (10, [.ref (o 1), .ref (o 2), .ref (o 3), .ref (o 4), .ref (o 5), .ref (o 6), .ref (o 7), .ref (o 8), .ref (o 9), .ref (o 10), .ref (o 11), .ref (o 12), .ref (o 13), .ref (o 14)])), ((o 4), .inr (3, [.ref (o 69), .ref (o 70), .ref (o 71)])), ((o 69), .inl (k 0, 17, .inl (u_2.2.2.1 0))), ((o 70), .inl (k 0, 17, .inl (u_2.2.2.1 1))), ((o 71), .inl (k 0, 17, .inl (u_2.2.2.1 2))), ((o 5), .inr (1, [.ref (o 3), .ref (o 4), .int (u_4.1 0), .int (u_4.1 1), .int (u_4.1 2), .int (u_4.1 3), .int (u_4.1 4), .ref (o 72)])), ((o 72), .inl (k 0, 17, .inl (u_6.2.2.1 0))), ((o 8), .inr (8, [.ref (o 3), .ref (o 4), .ref (o 6), .ref (o 74), .ref (o 75), .ref (o 76)])), ((o 74), .inl (k 0, 3, .inl (u_8.2.2.1 0))), ((o 76), .inl (k 3, 3, .inl (u_8.2.2.1 1))), ((o 9), .inr (0, [.ref (o 3), .ref (o 6), .int kopener, .int kworth])), ((o 3), .inr (2, [.int glines, .int (nI ghours), .int glaw, .int godds, .int (nI grows), .int (nI gheads), .int (nI gsayings), .int (nI gslugs), .int (nI gacts), .ref (o 26), .ref (o 27), .ref (o 28), .ref (o 29), .ref (o 30), .ref (o 31), .ref (o 32), .ref (o 33), .ref (o 34), .ref (o 35)])), ((o 26), .inl (k 0, 12, .inl f26)), ((o 27), .inl (k 0, 12, .inl f27)), ((o 30), .inl (k 0, 12, .inl f30)), ((o 31), .inl (k 0, 12, .inl f31)), ((o 33), .inl (k 0, 42, .inl f33)), ((o 34), .inl (k 0, 42, .inl f34)), ((o 35), .inl (k 0, 42, .inl f35))] := hD.sub [0, 1, 2, 3, 4, 5, 6, 16, 17, 18, 7, 8, 9, 10, 11, 12, 13, 14, 15] (by decide) rfl
  refine lv_aload_n hx hb dX10_retell_32 rfl (lv_at hl 0 rfl) ?_
  refine x_get S hK hP 0 rfl cfX10 8 lkX10_66 (by decide) rfl dX10_retell_33 ?_
  refine x_muVv (wr := [((o 0), .inr (10, [.ref (o 1), .ref (o 2), .ref (o 3), .ref (o 4), .ref (o 5), .ref (o 6), .ref (o 7), .ref (o 8), .ref (o 9), .ref (o 10), .ref (o 11), .ref (o 12), .ref (o 13), .ref (o 14)])), ((o 4), .inr (3, [.ref (o 69), .ref (o 70), .ref (o 71)])), ((o 69), .inl (k 0, 17, .inl (u_2.2.2.1 0))), ((o 70), .inl (k 0, 17, .inl (u_2.2.2.1 1))), ((o 71), .inl (k 0, 17, .inl (u_2.2.2.1 2))), ((o 5), .inr (1, [.ref (o 3), .ref (o 4), .int (u_4.1 0), .int (u_4.1 1), .int (u_4.1 2), .int (u_4.1 3), .int (u_4.1 4), .ref (o 72)])), ((o 72), .inl (k 0, 17, .inl (u_6.2.2.1 0))), ((o 8), .inr (8, [.ref (o 3), .ref (o 4), .ref (o 6), .ref (o 74), .ref (o 75), .ref (o 76)])), ((o 74), .inl (k 0, 3, .inl (u_8.2.2.1 0))), ((o 76), .inl (k 3, 3, .inl (u_8.2.2.1 1))), ((o 3), .inr (2, [.int glines, .int (nI ghours), .int glaw, .int godds, .int (nI grows), .int (nI gheads), .int (nI gsayings), .int (nI gslugs), .int (nI gacts), .ref (o 26), .ref (o 27), .ref (o 28), .ref (o 29), .ref (o 30), .ref (o 31), .ref (o 32), .ref (o 33), .ref (o 34), .ref (o 35)])), ((o 26), .inl (k 0, 12, .inl f26)), ((o 27), .inl (k 0, 12, .inl f27)), ((o 30), .inl (k 0, 12, .inl f30)), ((o 31), .inl (k 0, 12, .inl f31)), ((o 33), .inl (k 0, 42, .inl f33)), ((o 34), .inl (k 0, 42, .inl f34)), ((o 35), .inl (k 0, 42, .inl f35))]) (As := []) S hK hP hD hZ hS hA hl mwX0_forget lkX10_481 (ctX0_forget l D k z o kopener kworth ) [10] [0, 1, 2, 3, 4, 5, 6, 7, 8, 9, 11, 12, 13, 14, 15, 16, 17, 18] rfl rfl (by decide) (by decide) (by decide) rfl rfl rfl rfl rfl ⟨Nat.le_of_ble_eq_true rfl, Nat.le_of_ble_eq_true rfl, Nat.le_of_ble_eq_true rfl⟩ dX10_retell_36 ⟨Nat.le_of_ble_eq_true rfl, Nat.le_of_ble_eq_true rfl⟩ (fun u_10 H locs hr_9 hP hD hS => ?_)
  have hP : va_P D vwCl [((o 0), .inr (10, [.ref (o 1), .ref (o 2), .ref (o 3), .ref (o 4), .ref (o 5), .ref (o 6), .ref (o 7), .ref (o 8), .ref (o 9), .ref (o 10), .ref (o 11), .ref (o 12), .ref (o 13), .ref (o 14)])), ((o 4), .inr (3, [.ref (o 69), .ref (o 70), .ref (o 71)])), ((o 69), .inl (k 0, 17, .inl (u_2.2.2.1 0))), ((o 70), .inl (k 0, 17, .inl (u_2.2.2.1 1))), ((o 71), .inl (k 0, 17, .inl (u_2.2.2.1 2))), ((o 5), .inr (1, [.ref (o 3), .ref (o 4), .int (u_4.1 0), .int (u_4.1 1), .int (u_4.1 2), .int (u_4.1 3), .int (u_4.1 4), .ref (o 72)])), ((o 72), .inl (k 0, 17, .inl (u_6.2.2.1 0))), ((o 8), .inr (8, [.ref (o 3), .ref (o 4), .ref (o 6), .ref (o 74), .ref (o 75), .ref (o 76)])), ((o 74), .inl (k 0, 3, .inl (u_8.2.2.1 0))), ((o 76), .inl (k 3, 3, .inl (u_8.2.2.1 1))), ((o 9), .inr (0, [.ref (o 3), .ref (o 6), .int (u_10.1 0), .int kworth])), ((o 3), .inr (2, [.int glines, .int (nI ghours), .int glaw, .int godds, .int (nI grows), .int (nI gheads), .int (nI gsayings), .int (nI gslugs), .int (nI gacts), .ref (o 26), .ref (o 27), .ref (o 28), .ref (o 29), .ref (o 30), .ref (o 31), .ref (o 32), .ref (o 33), .ref (o 34), .ref (o 35)])), ((o 26), .inl (k 0, 12, .inl f26)), ((o 27), .inl (k 0, 12, .inl f27)), ((o 30), .inl (k 0, 12, .inl f30)), ((o 31), .inl (k 0, 12, .inl f31)), ((o 33), .inl (k 0, 42, .inl f33)), ((o 34), .inl (k 0, 42, .inl f34)), ((o 35), .inl (k 0, 42, .inl f35))] H := hP.sub [0, 1, 2, 3, 4, 5, 6, 7, 8, 9, 18, 10, 11, 12, 13, 14, 15, 16, 17] rfl
  have hD : va_D A [((o 0), .inr (10, [.ref (o 1), .ref (o 2), .ref (o 3), .ref (o 4), .ref (o 5), .ref (o 6), .ref (o 7), .ref (o 8), .ref (o 9), .ref (o 10), .ref (o 11), .ref (o 12), .ref (o 13), .ref (o 14)])), ((o 4), .inr (3, [.ref (o 69), .ref (o 70), .ref (o 71)])), ((o 69), .inl (k 0, 17, .inl (u_2.2.2.1 0))), ((o 70), .inl (k 0, 17, .inl (u_2.2.2.1 1))), ((o 71), .inl (k 0, 17, .inl (u_2.2.2.1 2))), ((o 5), .inr (1, [.ref (o 3), .ref (o 4), .int (u_4.1 0), .int (u_4.1 1), .int (u_4.1 2), .int (u_4.1 3), .int (u_4.1 4), .ref (o 72)])), ((o 72), .inl (k 0, 17, .inl (u_6.2.2.1 0))), ((o 8), .inr (8, [.ref (o 3), .ref (o 4), .ref (o 6), .ref (o 74), .ref (o 75), .ref (o 76)])), ((o 74), .inl (k 0, 3, .inl (u_8.2.2.1 0))), ((o 76), .inl (k 3, 3, .inl (u_8.2.2.1 1))), ((o 9), .inr (0, [.ref (o 3), .ref (o 6), .int (u_10.1 0), .int kworth])), ((o 3), .inr (2, [.int glines, .int (nI ghours), .int glaw, .int godds, .int (nI grows), .int (nI gheads), .int (nI gsayings), .int (nI gslugs), .int (nI gacts), .ref (o 26), .ref (o 27), .ref (o 28), .ref (o 29), .ref (o 30), .ref (o 31), .ref (o 32), .ref (o 33), .ref (o 34), .ref (o 35)])), ((o 26), .inl (k 0, 12, .inl f26)), ((o 27), .inl (k 0, 12, .inl f27)), ((o 30), .inl (k 0, 12, .inl f30)), ((o 31), .inl (k 0, 12, .inl f31)), ((o 33), .inl (k 0, 42, .inl f33)), ((o 34), .inl (k 0, 42, .inl f34)), ((o 35), .inl (k 0, 42, .inl f35))] := hD.sub [0, 1, 2, 3, 4, 5, 6, 7, 8, 9, 18, 10, 11, 12, 13, 14, 15, 16, 17] (by decide) rfl
  exact x_retv S hr hlk hQ hS ((fun i => ([(u_4.1 0), (u_4.1 1), (u_4.1 2), (u_4.1 3), (u_4.1 4), (u_10.1 0)] : List (Int32)).getD i 0), (fun i => ([] : List (Nat)).getD i 0), (fun i => ([(u_2.2.2.1 0), (u_2.2.2.1 1), (u_2.2.2.1 2), (u_6.2.2.1 0), (u_8.2.2.1 0), (u_8.2.2.1 1)] : List (Nat → Int32)).getD i (fun _ => 0)), (fun i => ([] : List (Nat → Int64)).getD i (fun _ => 0)), (fun i => ([] : List (Int64)).getD i 0)) trivial (x_B hP hD) dX10_retell_39

set_option maxHeartbeats 4000000 in
set_option maxRecDepth 100000 in
theorem ctX10_isGarden (l : Launch) (D : va_G) (k : Nat → ClassId) (z : Nat → Nat) (o : Nat → Nat) (glines : Int32) (ghours : Nat) (glaw : Int32) (godds : Int32) (grows : Nat) (gheads : Nat) (gsayings : Nat) (gslugs : Nat) (gacts : Nat) (hghours : ghours ≤ 16) (hgrows : grows ≤ 4) (hgheads : gheads ≤ 12) (hgsayings : gsayings ≤ 8) (hgslugs : gslugs ≤ 4) (hgacts : gacts ≤ 30) : RO l yX10_isGarden cX10_isGarden 1 (some .boolean) 0 D k z [.ref (o 0)] [((o 0), .inr (10, [.ref (o 1), .ref (o 2), .ref (o 3), .ref (o 4), .ref (o 5), .ref (o 6), .ref (o 7), .ref (o 8), .ref (o 9), .ref (o 10), .ref (o 11), .ref (o 12), .ref (o 13), .ref (o 14)])), ((o 3), .inr (2, [.int glines, .int (nI ghours), .int glaw, .int godds, .int (nI grows), .int (nI gheads), .int (nI gsayings), .int (nI gslugs), .int (nI gacts), .ref (o 26), .ref (o 27), .ref (o 28), .ref (o 29), .ref (o 30), .ref (o 31), .ref (o 32), .ref (o 33), .ref (o 34), .ref (o 35)]))] (Qi (fun r : Int32 => True)) := by
  refine RO.of (by decide) (Nat.le_of_ble_eq_true rfl) ?_
  intro p e s m below meth c ls A B args Q S hr hlk hQ hK hP hDW hZ hAB hBA hA hS hl
  have hx := S.1
  have hb := S.2.1
  have hl : lv_has ls 1 [(0, .ref (o 0))] := hl
  refine lv_aload_n hx hb dX10_isGarden_0 rfl (lv_at hl 0 rfl) ?_
  refine x_get S hK hP 0 rfl cfX10 2 lkX10_23 (by decide) rfl dX10_isGarden_1 ?_
  refine x_get S hK hP 1 rfl cfX2 0 lkX10_126 (by decide) rfl dX10_isGarden_4 ?_
  refine lv_if_le (tgt := 14) hx hb dX10_isGarden_7 (by decide) (fun c_1 => ?_) (fun c_1 => ?_)
  · skip
    refine lv_iconst (v := 0) hx hb dX10_isGarden_14 (by decide) ?_
    exact x_retz S hr hlk hQ hS rfl () trivial x_T dX10_isGarden_15
  · skip
    refine lv_iconst (v := 1) hx hb dX10_isGarden_10 (by decide) ?_
    refine lv_goto (tgt := 15) hx hb dX10_isGarden_11 (by decide) ?_
    exact x_retz S hr hlk hQ hS rfl () trivial x_T dX10_isGarden_15

set_option maxHeartbeats 4000000 in
set_option maxRecDepth 100000 in
theorem ctX10_isHead (l : Launch) (D : va_G) (k : Nat → ClassId) (z : Nat → Nat) (o : Nat → Nat) (glines : Int32) (ghours : Nat) (glaw : Int32) (godds : Int32) (grows : Nat) (gheads : Nat) (gsayings : Nat) (gslugs : Nat) (gacts : Nat) (p0 : Int32) (hghours : ghours ≤ 16) (hgrows : grows ≤ 4) (hgheads : gheads ≤ 12) (hgsayings : gsayings ≤ 8) (hgslugs : gslugs ≤ 4) (hgacts : gacts ≤ 30) : RO l yX10_isHead cX10_isHead 2 (some .boolean) 0 D k z [.ref (o 0), .int p0] [((o 0), .inr (10, [.ref (o 1), .ref (o 2), .ref (o 3), .ref (o 4), .ref (o 5), .ref (o 6), .ref (o 7), .ref (o 8), .ref (o 9), .ref (o 10), .ref (o 11), .ref (o 12), .ref (o 13), .ref (o 14)])), ((o 3), .inr (2, [.int glines, .int (nI ghours), .int glaw, .int godds, .int (nI grows), .int (nI gheads), .int (nI gsayings), .int (nI gslugs), .int (nI gacts), .ref (o 26), .ref (o 27), .ref (o 28), .ref (o 29), .ref (o 30), .ref (o 31), .ref (o 32), .ref (o 33), .ref (o 34), .ref (o 35)]))] (Qi (fun r : Int32 => (r = 0 ∨ (∃ j : Nat, p0 = nI j ∧ j < gheads)))) := by
  refine RO.of (by decide) (Nat.le_of_ble_eq_true rfl) ?_
  intro p e s m below meth c ls A B args Q S hr hlk hQ hK hP hDW hZ hAB hBA hA hS hl
  have hx := S.1
  have hb := S.2.1
  have hl : lv_has ls 2 [(0, .ref (o 0)), (1, .int p0)] := hl
  refine lv_iload_n hx hb dX10_isHead_0 rfl (lv_at hl 1 rfl) ?_
  refine lv_if_lt (tgt := 19) hx hb dX10_isHead_1 (by decide) (fun c_1 => ?_) (fun c_1 => ?_)
  · skip
    refine lv_iconst (v := 0) hx hb dX10_isHead_19 (by decide) ?_
    exact x_retz S hr hlk hQ hS rfl () (Or.inl rfl) x_T dX10_isHead_20
  · skip
    refine lv_iload_n hx hb dX10_isHead_4 rfl (lv_at hl 1 rfl) ?_
    refine lv_aload_n hx hb dX10_isHead_5 rfl (lv_at hl 0 rfl) ?_
    refine x_get S hK hP 0 rfl cfX10 2 lkX10_23 (by decide) rfl dX10_isHead_6 ?_
    refine x_get S hK hP 1 rfl cfX2 5 lkX10_296 (by decide) rfl dX10_isHead_9 ?_
    refine lv_icmp_ge (tgt := 19) hx hb dX10_isHead_12 (by decide) (fun c_2 => ?_) (fun c_2 => ?_)
    · skip
      refine lv_iconst (v := 0) hx hb dX10_isHead_19 (by decide) ?_
      exact x_retz S hr hlk hQ hS rfl () (Or.inl rfl) x_T dX10_isHead_20
    · skip
      refine lv_iconst (v := 1) hx hb dX10_isHead_15 (by decide) ?_
      refine lv_goto (tgt := 20) hx hb dX10_isHead_16 (by decide) ?_
      exact x_retz S hr hlk hQ hS rfl () (Or.inr (nat_lt c_1 (Int32.not_le.mp c_2) (by omega))) x_T dX10_isHead_20

set_option maxHeartbeats 4000000 in
set_option maxRecDepth 100000 in
theorem ctX10_isRow (l : Launch) (D : va_G) (k : Nat → ClassId) (z : Nat → Nat) (o : Nat → Nat) (glines : Int32) (ghours : Nat) (glaw : Int32) (godds : Int32) (grows : Nat) (gheads : Nat) (gsayings : Nat) (gslugs : Nat) (gacts : Nat) (p0 : Int32) (hghours : ghours ≤ 16) (hgrows : grows ≤ 4) (hgheads : gheads ≤ 12) (hgsayings : gsayings ≤ 8) (hgslugs : gslugs ≤ 4) (hgacts : gacts ≤ 30) : RO l yX10_isRow cX10_isRow 2 (some .boolean) 0 D k z [.ref (o 0), .int p0] [((o 0), .inr (10, [.ref (o 1), .ref (o 2), .ref (o 3), .ref (o 4), .ref (o 5), .ref (o 6), .ref (o 7), .ref (o 8), .ref (o 9), .ref (o 10), .ref (o 11), .ref (o 12), .ref (o 13), .ref (o 14)])), ((o 3), .inr (2, [.int glines, .int (nI ghours), .int glaw, .int godds, .int (nI grows), .int (nI gheads), .int (nI gsayings), .int (nI gslugs), .int (nI gacts), .ref (o 26), .ref (o 27), .ref (o 28), .ref (o 29), .ref (o 30), .ref (o 31), .ref (o 32), .ref (o 33), .ref (o 34), .ref (o 35)]))] (Qi (fun r : Int32 => (r = 0 ∨ (∃ j : Nat, p0 = nI j ∧ j < grows)))) := by
  refine RO.of (by decide) (Nat.le_of_ble_eq_true rfl) ?_
  intro p e s m below meth c ls A B args Q S hr hlk hQ hK hP hDW hZ hAB hBA hA hS hl
  have hx := S.1
  have hb := S.2.1
  have hl : lv_has ls 2 [(0, .ref (o 0)), (1, .int p0)] := hl
  refine lv_iload_n hx hb dX10_isRow_0 rfl (lv_at hl 1 rfl) ?_
  refine lv_if_lt (tgt := 19) hx hb dX10_isRow_1 (by decide) (fun c_1 => ?_) (fun c_1 => ?_)
  · skip
    refine lv_iconst (v := 0) hx hb dX10_isRow_19 (by decide) ?_
    exact x_retz S hr hlk hQ hS rfl () (Or.inl rfl) x_T dX10_isRow_20
  · skip
    refine lv_iload_n hx hb dX10_isRow_4 rfl (lv_at hl 1 rfl) ?_
    refine lv_aload_n hx hb dX10_isRow_5 rfl (lv_at hl 0 rfl) ?_
    refine x_get S hK hP 0 rfl cfX10 2 lkX10_23 (by decide) rfl dX10_isRow_6 ?_
    refine x_get S hK hP 1 rfl cfX2 4 lkX10_423 (by decide) rfl dX10_isRow_9 ?_
    refine lv_icmp_ge (tgt := 19) hx hb dX10_isRow_12 (by decide) (fun c_2 => ?_) (fun c_2 => ?_)
    · skip
      refine lv_iconst (v := 0) hx hb dX10_isRow_19 (by decide) ?_
      exact x_retz S hr hlk hQ hS rfl () (Or.inl rfl) x_T dX10_isRow_20
    · skip
      refine lv_iconst (v := 1) hx hb dX10_isRow_15 (by decide) ?_
      refine lv_goto (tgt := 20) hx hb dX10_isRow_16 (by decide) ?_
      exact x_retz S hr hlk hQ hS rfl () (Or.inr (nat_lt c_1 (Int32.not_le.mp c_2) (by omega))) x_T dX10_isRow_20

set_option maxHeartbeats 4000000 in
set_option maxRecDepth 100000 in
theorem ctX10_isHour (l : Launch) (D : va_G) (k : Nat → ClassId) (z : Nat → Nat) (o : Nat → Nat) (glines : Int32) (ghours : Nat) (glaw : Int32) (godds : Int32) (grows : Nat) (gheads : Nat) (gsayings : Nat) (gslugs : Nat) (gacts : Nat) (p0 : Int32) (hghours : ghours ≤ 16) (hgrows : grows ≤ 4) (hgheads : gheads ≤ 12) (hgsayings : gsayings ≤ 8) (hgslugs : gslugs ≤ 4) (hgacts : gacts ≤ 30) : RO l yX10_isHour cX10_isHour 2 (some .boolean) 1 D k z [.ref (o 0), .int p0] [((o 0), .inr (10, [.ref (o 1), .ref (o 2), .ref (o 3), .ref (o 4), .ref (o 5), .ref (o 6), .ref (o 7), .ref (o 8), .ref (o 9), .ref (o 10), .ref (o 11), .ref (o 12), .ref (o 13), .ref (o 14)])), ((o 3), .inr (2, [.int glines, .int (nI ghours), .int glaw, .int godds, .int (nI grows), .int (nI gheads), .int (nI gsayings), .int (nI gslugs), .int (nI gacts), .ref (o 26), .ref (o 27), .ref (o 28), .ref (o 29), .ref (o 30), .ref (o 31), .ref (o 32), .ref (o 33), .ref (o 34), .ref (o 35)]))] (Qi (fun r : Int32 => (r = 0 ∨ (∃ j : Nat, p0 = nI j ∧ j ≤ ghours)))) := by
  refine RO.of (by decide) (Nat.le_of_ble_eq_true rfl) ?_
  intro p e s m below meth c ls A B args Q S hr hlk hQ hK hP hDW hZ hAB hBA hA hS hl
  have hx := S.1
  have hb := S.2.1
  have hl : lv_has ls 2 [(0, .ref (o 0)), (1, .int p0)] := hl
  refine lv_aload_n hx hb dX10_isHour_0 rfl (lv_at hl 0 rfl) ?_
  refine x_roVi (As := []) S hK hP hDW hZ hAB hBA hS hA hl mwX10_isGarden lkX10_196 (ctX10_isGarden l D k z o glines ghours glaw godds grows gheads gsayings gslugs gacts (by omega) (by omega) (by omega) (by omega) (by omega) (by omega)) [0, 1] rfl (by decide) rfl rfl rfl rfl rfl ⟨Nat.le_of_ble_eq_true rfl, Nat.le_of_ble_eq_true rfl, Nat.le_of_ble_eq_true rfl⟩ dX10_isHour_1 ⟨Nat.le_of_ble_eq_true rfl, Nat.le_of_ble_eq_true rfl⟩ (fun r_1 H locs hr_1 hP hS => ?_)
  refine lv_if_eq (tgt := 26) hx hb dX10_isHour_4 (by decide) (fun c_3 => ?_) (fun c_3 => ?_)
  · skip
    refine lv_iconst (v := 0) hx hb dX10_isHour_26 (by decide) ?_
    exact x_retz S hr hlk hQ hS rfl () (Or.inl rfl) x_T dX10_isHour_27
  · skip
    refine lv_iload_n hx hb dX10_isHour_7 rfl (lv_at hl 1 rfl) ?_
    refine lv_if_lt (tgt := 26) hx hb dX10_isHour_8 (by decide) (fun c_4 => ?_) (fun c_4 => ?_)
    · skip
      refine lv_iconst (v := 0) hx hb dX10_isHour_26 (by decide) ?_
      exact x_retz S hr hlk hQ hS rfl () (Or.inl rfl) x_T dX10_isHour_27
    · skip
      refine lv_iload_n hx hb dX10_isHour_11 rfl (lv_at hl 1 rfl) ?_
      refine lv_aload_n hx hb dX10_isHour_12 rfl (lv_at hl 0 rfl) ?_
      refine x_get S hK hP 0 rfl cfX10 2 lkX10_23 (by decide) rfl dX10_isHour_13 ?_
      refine x_get S hK hP 1 rfl cfX2 1 lkX10_401 (by decide) rfl dX10_isHour_16 ?_
      refine lv_icmp_gt (tgt := 26) hx hb dX10_isHour_19 (by decide) (fun c_5 => ?_) (fun c_5 => ?_)
      · skip
        refine lv_iconst (v := 0) hx hb dX10_isHour_26 (by decide) ?_
        exact x_retz S hr hlk hQ hS rfl () (Or.inl rfl) x_T dX10_isHour_27
      · skip
        refine lv_iconst (v := 1) hx hb dX10_isHour_22 (by decide) ?_
        refine lv_goto (tgt := 27) hx hb dX10_isHour_23 (by decide) ?_
        exact x_retz S hr hlk hQ hS rfl () (Or.inr (nat_le c_4 (Int32.not_lt.mp c_5) (by omega))) x_T dX10_isHour_27

set_option maxHeartbeats 4000000 in
set_option maxRecDepth 100000 in
theorem ctX10_isWetHour (l : Launch) (D : va_G) (k : Nat → ClassId) (z : Nat → Nat) (o : Nat → Nat) (glines : Int32) (ghours : Nat) (glaw : Int32) (godds : Int32) (grows : Nat) (gheads : Nat) (gsayings : Nat) (gslugs : Nat) (gacts : Nat) (p0 : Int32) (hghours : ghours ≤ 16) (hgrows : grows ≤ 4) (hgheads : gheads ≤ 12) (hgsayings : gsayings ≤ 8) (hgslugs : gslugs ≤ 4) (hgacts : gacts ≤ 30) : RO l yX10_isWetHour cX10_isWetHour 2 (some .boolean) 2 D k z [.ref (o 0), .int p0] [((o 0), .inr (10, [.ref (o 1), .ref (o 2), .ref (o 3), .ref (o 4), .ref (o 5), .ref (o 6), .ref (o 7), .ref (o 8), .ref (o 9), .ref (o 10), .ref (o 11), .ref (o 12), .ref (o 13), .ref (o 14)])), ((o 3), .inr (2, [.int glines, .int (nI ghours), .int glaw, .int godds, .int (nI grows), .int (nI gheads), .int (nI gsayings), .int (nI gslugs), .int (nI gacts), .ref (o 26), .ref (o 27), .ref (o 28), .ref (o 29), .ref (o 30), .ref (o 31), .ref (o 32), .ref (o 33), .ref (o 34), .ref (o 35)]))] (Qi (fun r : Int32 => (r = 0 ∨ (∃ j : Nat, p0 = nI j ∧ j ≤ 7)))) := by
  refine RO.of (by decide) (Nat.le_of_ble_eq_true rfl) ?_
  intro p e s m below meth c ls A B args Q S hr hlk hQ hK hP hDW hZ hAB hBA hA hS hl
  have hx := S.1
  have hb := S.2.1
  have hl : lv_has ls 2 [(0, .ref (o 0)), (1, .int p0)] := hl
  refine lv_aload_n hx hb dX10_isWetHour_0 rfl (lv_at hl 0 rfl) ?_
  refine lv_iload_n hx hb dX10_isWetHour_1 rfl (lv_at hl 1 rfl) ?_
  refine x_roVi (As := [.int p0]) S hK hP hDW hZ hAB hBA hS hA hl mwX10_isHour lkX10_161 (ctX10_isHour l D k z o glines ghours glaw godds grows gheads gsayings gslugs gacts p0 (by omega) (by omega) (by omega) (by omega) (by omega) (by omega)) [0, 1] rfl (by decide) rfl rfl rfl rfl rfl ⟨Nat.le_of_ble_eq_true rfl, Nat.le_of_ble_eq_true rfl, Nat.le_of_ble_eq_true rfl⟩ dX10_isWetHour_2 ⟨Nat.le_of_ble_eq_true rfl, Nat.le_of_ble_eq_true rfl⟩ (fun r_1 H locs hr_1 hP hS => ?_)
  have hp_3 := hr_1
  refine lv_if_eq (tgt := 29) hx hb dX10_isWetHour_5 (by decide) (fun c_4 => ?_) (fun c_4 => ?_)
  · skip
    refine lv_iconst (v := 0) hx hb dX10_isWetHour_29 (by decide) ?_
    exact x_retz S hr hlk hQ hS rfl () (Or.inl rfl) x_T dX10_isWetHour_30
  · skip
    obtain ⟨n_5, rfl, hn_5⟩ := hp_3.resolve_left c_4
    refine lv_iload_n hx hb dX10_isWetHour_8 rfl (lv_at hl 1 rfl) ?_
    refine lv_bipush (v := 7) hx hb dX10_isWetHour_9 (by decide) ?_
    refine lv_icmp_gt (tgt := 29) hx hb dX10_isWetHour_11 (by decide) (fun c_6 => ?_) (fun c_6 => ?_)
    · skip
      have c_6 : 7 < n_5 := (ni_lt (by decide) rfl (by omega) (by omega)).mp c_6
      refine lv_iconst (v := 0) hx hb dX10_isWetHour_29 (by decide) ?_
      exact x_retz S hr hlk hQ hS rfl () (Or.inl rfl) x_T dX10_isWetHour_30
    · skip
      have c_6 : ¬ 7 < n_5 := fun q => c_6 ((ni_lt (by decide) rfl (by omega) (by omega)).mpr q)
      refine lv_iload_n hx hb dX10_isWetHour_14 rfl (lv_at hl 1 rfl) ?_
      refine lv_aload_n hx hb dX10_isWetHour_15 rfl (lv_at hl 0 rfl) ?_
      refine x_get S hK hP 0 rfl cfX10 2 lkX10_23 (by decide) rfl dX10_isWetHour_16 ?_
      refine x_get S hK hP 1 rfl cfX2 1 lkX10_401 (by decide) rfl dX10_isWetHour_19 ?_
      refine lv_icmp_ge (tgt := 29) hx hb dX10_isWetHour_22 (by decide) (fun c_7 => ?_) (fun c_7 => ?_)
      · skip
        have c_7 : ghours ≤ n_5 := (ni_le rfl rfl (by omega) (by omega)).mp c_7
        refine lv_iconst (v := 0) hx hb dX10_isWetHour_29 (by decide) ?_
        exact x_retz S hr hlk hQ hS rfl () (Or.inl rfl) x_T dX10_isWetHour_30
      · skip
        have c_7 : ¬ ghours ≤ n_5 := fun q => c_7 ((ni_le rfl rfl (by omega) (by omega)).mpr q)
        refine lv_iconst (v := 1) hx hb dX10_isWetHour_25 (by decide) ?_
        refine lv_goto (tgt := 30) hx hb dX10_isWetHour_26 (by decide) ?_
        exact x_retz S hr hlk hQ hS rfl () (Or.inr ⟨n_5, rfl, by omega⟩) x_T dX10_isWetHour_30

set_option maxHeartbeats 4000000 in
set_option maxRecDepth 100000 in
theorem ctX10_isPair (l : Launch) (D : va_G) (k : Nat → ClassId) (z : Nat → Nat) (o : Nat → Nat) (glines : Int32) (ghours : Nat) (glaw : Int32) (godds : Int32) (grows : Nat) (gheads : Nat) (gsayings : Nat) (gslugs : Nat) (gacts : Nat) (p0 : Int32) (p1 : Int32) (hghours : ghours ≤ 16) (hgrows : grows ≤ 4) (hgheads : gheads ≤ 12) (hgsayings : gsayings ≤ 8) (hgslugs : gslugs ≤ 4) (hgacts : gacts ≤ 30) : RO l yX10_isPair cX10_isPair 3 (some .boolean) 1 D k z [.ref (o 0), .int p0, .int p1] [((o 0), .inr (10, [.ref (o 1), .ref (o 2), .ref (o 3), .ref (o 4), .ref (o 5), .ref (o 6), .ref (o 7), .ref (o 8), .ref (o 9), .ref (o 10), .ref (o 11), .ref (o 12), .ref (o 13), .ref (o 14)])), ((o 3), .inr (2, [.int glines, .int (nI ghours), .int glaw, .int godds, .int (nI grows), .int (nI gheads), .int (nI gsayings), .int (nI gslugs), .int (nI gacts), .ref (o 26), .ref (o 27), .ref (o 28), .ref (o 29), .ref (o 30), .ref (o 31), .ref (o 32), .ref (o 33), .ref (o 34), .ref (o 35)]))] (Qi (fun r : Int32 => (r = 0 ∨ (∃ j : Nat, p0 = nI j ∧ j < gheads) ∧ (∃ j : Nat, p1 = nI j ∧ j < gheads)))) := by
  refine RO.of (by decide) (Nat.le_of_ble_eq_true rfl) ?_
  intro p e s m below meth c ls A B args Q S hr hlk hQ hK hP hDW hZ hAB hBA hA hS hl
  have hx := S.1
  have hb := S.2.1
  have hl : lv_has ls 3 [(0, .ref (o 0)), (1, .int p0), (2, .int p1)] := hl
  refine lv_aload_n hx hb dX10_isPair_0 rfl (lv_at hl 0 rfl) ?_
  refine lv_iload_n hx hb dX10_isPair_1 rfl (lv_at hl 1 rfl) ?_
  refine x_roVi (As := [.int p0]) S hK hP hDW hZ hAB hBA hS hA hl mwX10_isHead lkX10_135 (ctX10_isHead l D k z o glines ghours glaw godds grows gheads gsayings gslugs gacts p0 (by omega) (by omega) (by omega) (by omega) (by omega) (by omega)) [0, 1] rfl (by decide) rfl rfl rfl rfl rfl ⟨Nat.le_of_ble_eq_true rfl, Nat.le_of_ble_eq_true rfl, Nat.le_of_ble_eq_true rfl⟩ dX10_isPair_2 ⟨Nat.le_of_ble_eq_true rfl, Nat.le_of_ble_eq_true rfl⟩ (fun r_1 H locs hr_1 hP hS => ?_)
  have hp_3 := hr_1
  refine lv_if_eq (tgt := 25) hx hb dX10_isPair_5 (by decide) (fun c_4 => ?_) (fun c_4 => ?_)
  · skip
    refine lv_iconst (v := 0) hx hb dX10_isPair_25 (by decide) ?_
    exact x_retz S hr hlk hQ hS rfl () (Or.inl rfl) x_T dX10_isPair_26
  · skip
    obtain ⟨n_5, rfl, hn_5⟩ := hp_3.resolve_left c_4
    refine lv_aload_n hx hb dX10_isPair_8 rfl (lv_at hl 0 rfl) ?_
    refine lv_iload_n hx hb dX10_isPair_9 rfl (lv_at hl 2 rfl) ?_
    refine x_roVi (As := [.int p1]) S hK hP hDW hZ hAB hBA hS hA hl mwX10_isHead lkX10_135 (ctX10_isHead l D k z o glines ghours glaw godds grows gheads gsayings gslugs gacts p1 (by omega) (by omega) (by omega) (by omega) (by omega) (by omega)) [0, 1] rfl (by decide) rfl rfl rfl rfl rfl ⟨Nat.le_of_ble_eq_true rfl, Nat.le_of_ble_eq_true rfl, Nat.le_of_ble_eq_true rfl⟩ dX10_isPair_10 ⟨Nat.le_of_ble_eq_true rfl, Nat.le_of_ble_eq_true rfl⟩ (fun r_6 H locs hr_6 hP hS => ?_)
    have hp_8 := hr_6
    refine lv_if_eq (tgt := 25) hx hb dX10_isPair_13 (by decide) (fun c_9 => ?_) (fun c_9 => ?_)
    · skip
      refine lv_iconst (v := 0) hx hb dX10_isPair_25 (by decide) ?_
      exact x_retz S hr hlk hQ hS rfl () (Or.inl rfl) x_T dX10_isPair_26
    · skip
      obtain ⟨n_10, rfl, hn_10⟩ := hp_8.resolve_left c_9
      refine lv_iload_n hx hb dX10_isPair_16 rfl (lv_at hl 1 rfl) ?_
      refine lv_iload_n hx hb dX10_isPair_17 rfl (lv_at hl 2 rfl) ?_
      refine lv_icmp_eq (tgt := 25) hx hb dX10_isPair_18 (by decide) (fun c_11 => ?_) (fun c_11 => ?_)
      · skip
        have c_11 : n_5 = n_10 := (ni_eq rfl rfl (by omega) (by omega)).mp c_11
        refine lv_iconst (v := 0) hx hb dX10_isPair_25 (by decide) ?_
        exact x_retz S hr hlk hQ hS rfl () (Or.inl rfl) x_T dX10_isPair_26
      · skip
        have c_11 : ¬ n_5 = n_10 := fun q => c_11 ((ni_eq rfl rfl (by omega) (by omega)).mpr q)
        refine lv_iconst (v := 1) hx hb dX10_isPair_21 (by decide) ?_
        refine lv_goto (tgt := 26) hx hb dX10_isPair_22 (by decide) ?_
        exact x_retz S hr hlk hQ hS rfl () (Or.inr ⟨⟨n_5, rfl, by omega⟩, ⟨n_10, rfl, by omega⟩⟩) x_T dX10_isPair_26

