theorem dX8_forget_0 : decode cX8_forget 0 = .ok (.iconst 0, 1) := by decide +kernel
theorem dX8_forget_1 : decode cX8_forget 1 = .ok (.istore_n 1, 1) := by decide +kernel
theorem dX8_forget_2 : decode cX8_forget 2 = .ok (.iload_n 1, 1) := by decide +kernel
theorem dX8_forget_3 : decode cX8_forget 3 = .ok (.iconst 3, 1) := by decide +kernel
theorem dX8_forget_4 : decode cX8_forget 4 = .ok (.if_icmp .ge 24, 3) := by decide +kernel
theorem dX8_forget_7 : decode cX8_forget 7 = .ok (.aload_n 0, 1) := by decide +kernel
theorem dX8_forget_8 : decode cX8_forget 8 = .ok (.getfield 11, 3) := by decide +kernel
theorem dX8_forget_11 : decode cX8_forget 11 = .ok (.iload_n 1, 1) := by decide +kernel
theorem dX8_forget_12 : decode cX8_forget 12 = .ok (.bipush (-2), 2) := by decide +kernel
theorem dX8_forget_14 : decode cX8_forget 14 = .ok (.iastore, 1) := by decide +kernel
theorem dX8_forget_15 : decode cX8_forget 15 = .ok (.aload_n 0, 1) := by decide +kernel
theorem dX8_forget_16 : decode cX8_forget 16 = .ok (.getfield 20, 3) := by decide +kernel
theorem dX8_forget_19 : decode cX8_forget 19 = .ok (.iload_n 1, 1) := by decide +kernel
theorem dX8_forget_20 : decode cX8_forget 20 = .ok (.iconst 0, 1) := by decide +kernel
theorem dX8_forget_21 : decode cX8_forget 21 = .ok (.bastore, 1) := by decide +kernel
theorem dX8_forget_22 : decode cX8_forget 22 = .ok (.iinc 1 1, 3) := by decide +kernel
theorem dX8_forget_25 : decode cX8_forget 25 = .ok (.goto (-23), 3) := by decide +kernel
theorem dX8_forget_28 : decode cX8_forget 28 = .ok (.return_, 1) := by decide +kernel
theorem dX8_holdersTold_0 : decode cX8_holdersTold 0 = .ok (.aload_n 0, 1) := by decide +kernel
theorem dX8_holdersTold_1 : decode cX8_holdersTold 1 = .ok (.getfield 32, 3) := by decide +kernel
theorem dX8_holdersTold_4 : decode cX8_holdersTold 4 = .ok (.iload_n 1, 1) := by decide +kernel
theorem dX8_holdersTold_5 : decode cX8_holdersTold 5 = .ok (.iload_n 2, 1) := by decide +kernel
theorem dX8_holdersTold_6 : decode cX8_holdersTold 6 = .ok (.invokevirtual 36, 3) := by decide +kernel
theorem dX8_holdersTold_9 : decode cX8_holdersTold 9 = .ok (.aload_n 0, 1) := by decide +kernel
theorem dX8_holdersTold_10 : decode cX8_holdersTold 10 = .ok (.getfield 32, 3) := by decide +kernel
theorem dX8_holdersTold_13 : decode cX8_holdersTold 13 = .ok (.invokevirtual 42, 3) := by decide +kernel
theorem dX8_holdersTold_16 : decode cX8_holdersTold 16 = .ok (.aload_n 0, 1) := by decide +kernel
theorem dX8_holdersTold_17 : decode cX8_holdersTold 17 = .ok (.getfield 32, 3) := by decide +kernel
theorem dX8_holdersTold_20 : decode cX8_holdersTold 20 = .ok (.invokevirtual 45, 3) := by decide +kernel
theorem dX8_holdersTold_23 : decode cX8_holdersTold 23 = .ok (.iload_n 1, 1) := by decide +kernel
theorem dX8_holdersTold_24 : decode cX8_holdersTold 24 = .ok (.invokestatic 49, 3) := by decide +kernel
theorem dX8_holdersTold_27 : decode cX8_holdersTold 27 = .ok (.ireturn, 1) := by decide +kernel
theorem dX8_winsAll_0 : decode cX8_winsAll 0 = .ok (.aload_n 0, 1) := by decide +kernel
theorem dX8_winsAll_1 : decode cX8_winsAll 1 = .ok (.getfield 32, 3) := by decide +kernel
theorem dX8_winsAll_4 : decode cX8_winsAll 4 = .ok (.iload_n 1, 1) := by decide +kernel
theorem dX8_winsAll_5 : decode cX8_winsAll 5 = .ok (.iload_n 2, 1) := by decide +kernel
theorem dX8_winsAll_6 : decode cX8_winsAll 6 = .ok (.invokevirtual 36, 3) := by decide +kernel
theorem dX8_winsAll_9 : decode cX8_winsAll 9 = .ok (.aload_n 0, 1) := by decide +kernel
theorem dX8_winsAll_10 : decode cX8_winsAll 10 = .ok (.getfield 32, 3) := by decide +kernel
theorem dX8_winsAll_13 : decode cX8_winsAll 13 = .ok (.invokevirtual 42, 3) := by decide +kernel
theorem dX8_winsAll_16 : decode cX8_winsAll 16 = .ok (.aload_n 0, 1) := by decide +kernel
theorem dX8_winsAll_17 : decode cX8_winsAll 17 = .ok (.getfield 24, 3) := by decide +kernel
theorem dX8_winsAll_20 : decode cX8_winsAll 20 = .ok (.invokevirtual 53, 3) := by decide +kernel
theorem dX8_winsAll_23 : decode cX8_winsAll 23 = .ok (.aload_n 0, 1) := by decide +kernel
theorem dX8_winsAll_24 : decode cX8_winsAll 24 = .ok (.getfield 28, 3) := by decide +kernel
theorem dX8_winsAll_27 : decode cX8_winsAll 27 = .ok (.getfield 58, 3) := by decide +kernel
theorem dX8_winsAll_30 : decode cX8_winsAll 30 = .ok (.aload_n 0, 1) := by decide +kernel
theorem dX8_winsAll_31 : decode cX8_winsAll 31 = .ok (.getfield 24, 3) := by decide +kernel
theorem dX8_winsAll_34 : decode cX8_winsAll 34 = .ok (.getfield 63, 3) := by decide +kernel
theorem dX8_winsAll_37 : decode cX8_winsAll 37 = .ok (.iaload, 1) := by decide +kernel
theorem dX8_winsAll_38 : decode cX8_winsAll 38 = .ok (.iconst (-1), 1) := by decide +kernel
theorem dX8_winsAll_39 : decode cX8_winsAll 39 = .ok (.ixor, 1) := by decide +kernel
theorem dX8_winsAll_40 : decode cX8_winsAll 40 = .ok (.iand, 1) := by decide +kernel
theorem dX8_winsAll_41 : decode cX8_winsAll 41 = .ok (.istore_n 3, 1) := by decide +kernel
theorem dX8_winsAll_42 : decode cX8_winsAll 42 = .ok (.iload_n 3, 1) := by decide +kernel
theorem dX8_winsAll_43 : decode cX8_winsAll 43 = .ok (.aload_n 0, 1) := by decide +kernel
theorem dX8_winsAll_44 : decode cX8_winsAll 44 = .ok (.getfield 32, 3) := by decide +kernel
theorem dX8_winsAll_47 : decode cX8_winsAll 47 = .ok (.invokevirtual 45, 3) := by decide +kernel
theorem dX8_winsAll_50 : decode cX8_winsAll 50 = .ok (.iload_n 1, 1) := by decide +kernel
theorem dX8_winsAll_51 : decode cX8_winsAll 51 = .ok (.invokestatic 49, 3) := by decide +kernel
theorem dX8_winsAll_54 : decode cX8_winsAll 54 = .ok (.iconst (-1), 1) := by decide +kernel
theorem dX8_winsAll_55 : decode cX8_winsAll 55 = .ok (.ixor, 1) := by decide +kernel
theorem dX8_winsAll_56 : decode cX8_winsAll 56 = .ok (.iand, 1) := by decide +kernel
theorem dX8_winsAll_57 : decode cX8_winsAll 57 = .ok (.ifCond .ne 7, 3) := by decide +kernel
theorem dX8_winsAll_60 : decode cX8_winsAll 60 = .ok (.iconst 1, 1) := by decide +kernel
theorem dX8_winsAll_61 : decode cX8_winsAll 61 = .ok (.goto 4, 3) := by decide +kernel
theorem dX8_winsAll_64 : decode cX8_winsAll 64 = .ok (.iconst 0, 1) := by decide +kernel
theorem dX8_winsAll_65 : decode cX8_winsAll 65 = .ok (.ireturn, 1) := by decide +kernel
theorem dX8_loudest_0 : decode cX8_loudest 0 = .ok (.iconst (-1), 1) := by decide +kernel
theorem dX8_loudest_1 : decode cX8_loudest 1 = .ok (.istore_n 2, 1) := by decide +kernel
theorem dX8_loudest_2 : decode cX8_loudest 2 = .ok (.iconst (-1), 1) := by decide +kernel
theorem dX8_loudest_3 : decode cX8_loudest 3 = .ok (.istore_n 3, 1) := by decide +kernel
theorem dX8_loudest_4 : decode cX8_loudest 4 = .ok (.iconst 0, 1) := by decide +kernel
theorem dX8_loudest_5 : decode cX8_loudest 5 = .ok (.istore 4, 2) := by decide +kernel
theorem dX8_loudest_7 : decode cX8_loudest 7 = .ok (.iload 4, 2) := by decide +kernel
theorem dX8_loudest_9 : decode cX8_loudest 9 = .ok (.aload_n 0, 1) := by decide +kernel
theorem dX8_loudest_10 : decode cX8_loudest 10 = .ok (.getfield 24, 3) := by decide +kernel
theorem dX8_loudest_13 : decode cX8_loudest 13 = .ok (.getfield 71, 3) := by decide +kernel
theorem dX8_loudest_16 : decode cX8_loudest 16 = .ok (.if_icmp .ge 35, 3) := by decide +kernel
theorem dX8_loudest_19 : decode cX8_loudest 19 = .ok (.aload_n 0, 1) := by decide +kernel
theorem dX8_loudest_20 : decode cX8_loudest 20 = .ok (.iload_n 1, 1) := by decide +kernel
theorem dX8_loudest_21 : decode cX8_loudest 21 = .ok (.iconst 1, 1) := by decide +kernel
theorem dX8_loudest_22 : decode cX8_loudest 22 = .ok (.iload 4, 2) := by decide +kernel
theorem dX8_loudest_24 : decode cX8_loudest 24 = .ok (.ishl, 1) := by decide +kernel
theorem dX8_loudest_25 : decode cX8_loudest 25 = .ok (.invokevirtual 78, 3) := by decide +kernel
theorem dX8_loudest_28 : decode cX8_loudest 28 = .ok (.invokestatic 81, 3) := by decide +kernel
theorem dX8_loudest_31 : decode cX8_loudest 31 = .ok (.istore 5, 2) := by decide +kernel
theorem dX8_loudest_33 : decode cX8_loudest 33 = .ok (.iload 5, 2) := by decide +kernel
theorem dX8_loudest_35 : decode cX8_loudest 35 = .ok (.iload_n 3, 1) := by decide +kernel
theorem dX8_loudest_36 : decode cX8_loudest 36 = .ok (.if_icmp .le 9, 3) := by decide +kernel
theorem dX8_loudest_39 : decode cX8_loudest 39 = .ok (.iload 5, 2) := by decide +kernel
theorem dX8_loudest_41 : decode cX8_loudest 41 = .ok (.istore_n 3, 1) := by decide +kernel
theorem dX8_loudest_42 : decode cX8_loudest 42 = .ok (.iload 4, 2) := by decide +kernel
theorem dX8_loudest_44 : decode cX8_loudest 44 = .ok (.istore_n 2, 1) := by decide +kernel
theorem dX8_loudest_45 : decode cX8_loudest 45 = .ok (.iinc 4 1, 3) := by decide +kernel
theorem dX8_loudest_48 : decode cX8_loudest 48 = .ok (.goto (-41), 3) := by decide +kernel
theorem dX8_loudest_51 : decode cX8_loudest 51 = .ok (.iload_n 2, 1) := by decide +kernel
theorem dX8_loudest_52 : decode cX8_loudest 52 = .ok (.ireturn, 1) := by decide +kernel
theorem dX8_firmHeads_0 : decode cX8_firmHeads 0 = .ok (.iconst 0, 1) := by decide +kernel
theorem dX8_firmHeads_1 : decode cX8_firmHeads 1 = .ok (.istore_n 2, 1) := by decide +kernel
theorem dX8_firmHeads_2 : decode cX8_firmHeads 2 = .ok (.iconst 0, 1) := by decide +kernel
theorem dX8_firmHeads_3 : decode cX8_firmHeads 3 = .ok (.istore_n 3, 1) := by decide +kernel
theorem dX8_firmHeads_4 : decode cX8_firmHeads 4 = .ok (.iload_n 3, 1) := by decide +kernel
theorem dX8_firmHeads_5 : decode cX8_firmHeads 5 = .ok (.aload_n 0, 1) := by decide +kernel
theorem dX8_firmHeads_6 : decode cX8_firmHeads 6 = .ok (.getfield 24, 3) := by decide +kernel
theorem dX8_firmHeads_9 : decode cX8_firmHeads 9 = .ok (.getfield 71, 3) := by decide +kernel
theorem dX8_firmHeads_12 : decode cX8_firmHeads 12 = .ok (.if_icmp .ge 42, 3) := by decide +kernel
theorem dX8_firmHeads_15 : decode cX8_firmHeads 15 = .ok (.iconst 1, 1) := by decide +kernel
theorem dX8_firmHeads_16 : decode cX8_firmHeads 16 = .ok (.iload_n 3, 1) := by decide +kernel
theorem dX8_firmHeads_17 : decode cX8_firmHeads 17 = .ok (.ishl, 1) := by decide +kernel
theorem dX8_firmHeads_18 : decode cX8_firmHeads 18 = .ok (.istore 4, 2) := by decide +kernel
theorem dX8_firmHeads_20 : decode cX8_firmHeads 20 = .ok (.aload_n 0, 1) := by decide +kernel
theorem dX8_firmHeads_21 : decode cX8_firmHeads 21 = .ok (.iload_n 1, 1) := by decide +kernel
theorem dX8_firmHeads_22 : decode cX8_firmHeads 22 = .ok (.aload_n 0, 1) := by decide +kernel
theorem dX8_firmHeads_23 : decode cX8_firmHeads 23 = .ok (.getfield 24, 3) := by decide +kernel
theorem dX8_firmHeads_26 : decode cX8_firmHeads 26 = .ok (.invokevirtual 53, 3) := by decide +kernel
theorem dX8_firmHeads_29 : decode cX8_firmHeads 29 = .ok (.iload 4, 2) := by decide +kernel
theorem dX8_firmHeads_31 : decode cX8_firmHeads 31 = .ok (.iconst (-1), 1) := by decide +kernel
theorem dX8_firmHeads_32 : decode cX8_firmHeads 32 = .ok (.ixor, 1) := by decide +kernel
theorem dX8_firmHeads_33 : decode cX8_firmHeads 33 = .ok (.iand, 1) := by decide +kernel
theorem dX8_firmHeads_34 : decode cX8_firmHeads 34 = .ok (.invokevirtual 78, 3) := by decide +kernel
theorem dX8_firmHeads_37 : decode cX8_firmHeads 37 = .ok (.iload 4, 2) := by decide +kernel
theorem dX8_firmHeads_39 : decode cX8_firmHeads 39 = .ok (.iand, 1) := by decide +kernel
theorem dX8_firmHeads_40 : decode cX8_firmHeads 40 = .ok (.ifCond .ne 8, 3) := by decide +kernel
theorem dX8_firmHeads_43 : decode cX8_firmHeads 43 = .ok (.iload_n 2, 1) := by decide +kernel
theorem dX8_firmHeads_44 : decode cX8_firmHeads 44 = .ok (.iload 4, 2) := by decide +kernel
theorem dX8_firmHeads_46 : decode cX8_firmHeads 46 = .ok (.ior, 1) := by decide +kernel
theorem dX8_firmHeads_47 : decode cX8_firmHeads 47 = .ok (.istore_n 2, 1) := by decide +kernel
theorem dX8_firmHeads_48 : decode cX8_firmHeads 48 = .ok (.iinc 3 1, 3) := by decide +kernel
theorem dX8_firmHeads_51 : decode cX8_firmHeads 51 = .ok (.goto (-47), 3) := by decide +kernel
theorem dX8_firmHeads_54 : decode cX8_firmHeads 54 = .ok (.iload_n 2, 1) := by decide +kernel
theorem dX8_firmHeads_55 : decode cX8_firmHeads 55 = .ok (.ireturn, 1) := by decide +kernel
set_option maxHeartbeats 4000000 in
set_option maxRecDepth 100000 in
theorem ctX8_forget (l : Launch) (D : va_G) (k : Nat → ClassId) (z : Nat → Nat) (o : Nat → Nat) (f74 : Nat → Int32) (f76 : Nat → Int32) (tlawNow : Int32) (tharder : Int32) (ttold : Int32) (treply : Int32) (twet : Int32) (f73 : Nat → Int32) (f69 : Nat → Int32) (f70 : Nat → Int32) (f71 : Nat → Int32) (glines : Int32) (ghours : Nat) (glaw : Int32) (godds : Int32) (grows : Nat) (gheads : Nat) (gsayings : Nat) (gslugs : Nat) (gacts : Nat) (f26 : Nat → Int32) (f30 : Nat → Int32) (f31 : Nat → Int32) (hghours : ghours ≤ 16) (hgrows : grows ≤ 4) (hgheads : gheads ≤ 12) (hgsayings : gsayings ≤ 8) (hgslugs : gslugs ≤ 4) (hgacts : gacts ≤ 30) : MU l yX8_forget cX8_forget 2 none 0 D k z [.ref (o 8)] [((o 8), .inr (8, [.ref (o 3), .ref (o 4), .ref (o 6), .ref (o 74), .ref (o 75), .ref (o 76)])), ((o 74), .inl (k 0, 3, .inl f74)), ((o 76), .inl (k 3, 3, .inl f76)), ((o 6), .inr (1, [.ref (o 3), .ref (o 4), .int tlawNow, .int tharder, .int ttold, .int treply, .int twet, .ref (o 73)])), ((o 73), .inl (k 0, 17, .inl f73)), ((o 4), .inr (3, [.ref (o 69), .ref (o 70), .ref (o 71)])), ((o 69), .inl (k 0, 17, .inl f69)), ((o 70), .inl (k 0, 17, .inl f70)), ((o 71), .inl (k 0, 17, .inl f71)), ((o 3), .inr (2, [.int glines, .int (nI ghours), .int glaw, .int godds, .int (nI grows), .int (nI gheads), .int (nI gsayings), .int (nI gslugs), .int (nI gacts), .ref (o 26), .ref (o 27), .ref (o 28), .ref (o 29), .ref (o 30), .ref (o 31), .ref (o 32), .ref (o 33), .ref (o 34), .ref (o 35)])), ((o 26), .inl (k 0, 12, .inl f26)), ((o 30), .inl (k 0, 12, .inl f30)), ((o 31), .inl (k 0, 12, .inl f31))] 0 0 (Uv D (fun _ : (Nat → Int32) × (Nat → Nat) × (Nat → Nat → Int32) × (Nat → Nat → Int64) × (Nat → Int64) => True) (fun u : (Nat → Int32) × (Nat → Nat) × (Nat → Nat → Int32) × (Nat → Nat → Int64) × (Nat → Int64) => [((o 8), .inr (8, [.ref (o 3), .ref (o 4), .ref (o 6), .ref (o 74), .ref (o 75), .ref (o 76)])), ((o 74), .inl (k 0, 3, .inl (u.2.2.1 0))), ((o 76), .inl (k 3, 3, .inl (u.2.2.1 1))), ((o 6), .inr (1, [.ref (o 3), .ref (o 4), .int tlawNow, .int tharder, .int ttold, .int treply, .int twet, .ref (o 73)])), ((o 73), .inl (k 0, 17, .inl f73)), ((o 4), .inr (3, [.ref (o 69), .ref (o 70), .ref (o 71)])), ((o 69), .inl (k 0, 17, .inl f69)), ((o 70), .inl (k 0, 17, .inl f70)), ((o 71), .inl (k 0, 17, .inl f71)), ((o 3), .inr (2, [.int glines, .int (nI ghours), .int glaw, .int godds, .int (nI grows), .int (nI gheads), .int (nI gsayings), .int (nI gslugs), .int (nI gacts), .ref (o 26), .ref (o 27), .ref (o 28), .ref (o 29), .ref (o 30), .ref (o 31), .ref (o 32), .ref (o 33), .ref (o 34), .ref (o 35)])), ((o 26), .inl (k 0, 12, .inl f26)), ((o 30), .inl (k 0, 12, .inl f30)), ((o 31), .inl (k 0, 12, .inl f31))])) := by
  refine MU.of (by decide) (Nat.le_of_ble_eq_true rfl) ?_
  intro p e s m below meth c ls A args Q S hr hlk hnm hQ hK hP hD hZ hA hS hl
  have hx := S.1
  have hb := S.2.1
  have hl : lv_has ls 2 [(0, .ref (o 8))] := hl
  refine lv_iconst (v := 0) hx hb dX8_forget_0 (by decide) ?_
  refine lv_istore_n (lv' := [(1, .int 0), (0, .ref (o 8))]) hx hb dX8_forget_1 rfl hl (by decide) rfl (fun ls hl => ?_)
  have lp_15 : ∀ (nn j_12 : Nat) (g_13 : Nat → Int32) (g_14 : Nat → Int32) (H : Heap) (locs : List Loc) (ls : Array Slot), j_12 ≤ 3 → 3 - j_12 < nn → va_P D vwCl [((o 8), .inr (8, [.ref (o 3), .ref (o 4), .ref (o 6), .ref (o 74), .ref (o 75), .ref (o 76)])), ((o 74), .inl (k 0, 3, .inl g_13)), ((o 76), .inl (k 3, 3, .inl g_14)), ((o 6), .inr (1, [.ref (o 3), .ref (o 4), .int tlawNow, .int tharder, .int ttold, .int treply, .int twet, .ref (o 73)])), ((o 73), .inl (k 0, 17, .inl f73)), ((o 4), .inr (3, [.ref (o 69), .ref (o 70), .ref (o 71)])), ((o 69), .inl (k 0, 17, .inl f69)), ((o 70), .inl (k 0, 17, .inl f70)), ((o 71), .inl (k 0, 17, .inl f71)), ((o 3), .inr (2, [.int glines, .int (nI ghours), .int glaw, .int godds, .int (nI grows), .int (nI gheads), .int (nI gsayings), .int (nI gslugs), .int (nI gacts), .ref (o 26), .ref (o 27), .ref (o 28), .ref (o 29), .ref (o 30), .ref (o 31), .ref (o 32), .ref (o 33), .ref (o 34), .ref (o 35)])), ((o 26), .inl (k 0, 12, .inl f26)), ((o 30), .inl (k 0, 12, .inl f30)), ((o 31), .inl (k 0, 12, .inl f31))] H → va_D A [((o 8), .inr (8, [.ref (o 3), .ref (o 4), .ref (o 6), .ref (o 74), .ref (o 75), .ref (o 76)])), ((o 74), .inl (k 0, 3, .inl g_13)), ((o 76), .inl (k 3, 3, .inl g_14)), ((o 6), .inr (1, [.ref (o 3), .ref (o 4), .int tlawNow, .int tharder, .int ttold, .int treply, .int twet, .ref (o 73)])), ((o 73), .inl (k 0, 17, .inl f73)), ((o 4), .inr (3, [.ref (o 69), .ref (o 70), .ref (o 71)])), ((o 69), .inl (k 0, 17, .inl f69)), ((o 70), .inl (k 0, 17, .inl f70)), ((o 71), .inl (k 0, 17, .inl f71)), ((o 3), .inr (2, [.int glines, .int (nI ghours), .int glaw, .int godds, .int (nI grows), .int (nI gheads), .int (nI gsayings), .int (nI gslugs), .int (nI gacts), .ref (o 26), .ref (o 27), .ref (o 28), .ref (o 29), .ref (o 30), .ref (o 31), .ref (o 32), .ref (o 33), .ref (o 34), .ref (o 35)])), ((o 26), .inl (k 0, 12, .inl f26)), ((o 30), .inl (k 0, 12, .inl f30)), ((o 31), .inl (k 0, 12, .inl f31))] → va_S A s.heap H locs → lv_has ls 2 [(1, .int (nI j_12)), (0, .ref (o 8))] → W p l e (Rm 0 0 0) s m args below meth c H locs 0 0 Q (F0 m 2 ls []) := by
    intro nn
    induction nn with
    | zero => intro j_12 g_13 g_14 H locs ls hjj_12 hnj_12; exact absurd hnj_12 (by omega)
    | succ nn ihj_12 =>
      intro j_12 g_13 g_14 H locs ls hjj_12 hnj_12 hP hD hS hl
      refine lv_iload_n hx hb dX8_forget_2 rfl (lv_at hl 0 rfl) ?_
      refine lv_iconst (v := 3) hx hb dX8_forget_3 (by decide) ?_
      refine lv_icmp_ge (tgt := 28) hx hb dX8_forget_4 (by decide) (fun c_16 => ?_) (fun c_16 => ?_)
      · skip
        have c_16 : 3 ≤ j_12 := (ni_le (by decide) rfl (by omega) (by omega)).mp c_16
        exact x_retv S hr hlk hQ hS ((fun i => ([] : List (Int32)).getD i 0), (fun i => ([] : List (Nat)).getD i 0), (fun i => ([g_13, g_14] : List (Nat → Int32)).getD i (fun _ => 0)), (fun i => ([] : List (Nat → Int64)).getD i (fun _ => 0)), (fun i => ([] : List (Int64)).getD i 0)) trivial (x_B hP hD) dX8_forget_28
      · skip
        have c_16 : ¬ 3 ≤ j_12 := fun q => c_16 ((ni_le (by decide) rfl (by omega) (by omega)).mpr q)
        refine lv_aload_n hx hb dX8_forget_7 rfl (lv_at hl 1 rfl) ?_
        refine x_get S hK hP 0 rfl cfX8 3 lkX8_11 (by decide) rfl dX8_forget_8 ?_
        refine lv_iload_n hx hb dX8_forget_11 rfl (lv_at hl 0 rfl) ?_
        refine lv_bipush (v := (-2)) hx hb dX8_forget_12 (by decide) ?_
        refine x_iast (ws' := fun f_17 => [((o 8), .inr (8, [.ref (o 3), .ref (o 4), .ref (o 6), .ref (o 74), .ref (o 75), .ref (o 76)])), ((o 74), .inl (k 0, 3, .inl f_17)), ((o 76), .inl (k 3, 3, .inl g_14)), ((o 6), .inr (1, [.ref (o 3), .ref (o 4), .int tlawNow, .int tharder, .int ttold, .int treply, .int twet, .ref (o 73)])), ((o 73), .inl (k 0, 17, .inl f73)), ((o 4), .inr (3, [.ref (o 69), .ref (o 70), .ref (o 71)])), ((o 69), .inl (k 0, 17, .inl f69)), ((o 70), .inl (k 0, 17, .inl f70)), ((o 71), .inl (k 0, 17, .inl f71)), ((o 3), .inr (2, [.int glines, .int (nI ghours), .int glaw, .int godds, .int (nI grows), .int (nI gheads), .int (nI gsayings), .int (nI gslugs), .int (nI gacts), .ref (o 26), .ref (o 27), .ref (o 28), .ref (o 29), .ref (o 30), .ref (o 31), .ref (o 32), .ref (o 33), .ref (o 34), .ref (o 35)])), ((o 26), .inl (k 0, 12, .inl f26)), ((o 30), .inl (k 0, 12, .inl f30)), ((o 31), .inl (k 0, 12, .inl f31))]) S hK hP hD hS 1 rfl (vp_in_nI (by omega) (by decide)) (fun _ => rfl) dX8_forget_14 (fun f_17 H locs ef_17 hP hD hS => ?_)
        refine lv_aload_n hx hb dX8_forget_15 rfl (lv_at hl 1 rfl) ?_
        refine x_get S hK hP 0 rfl cfX8 5 lkX8_20 (by decide) rfl dX8_forget_16 ?_
        refine lv_iload_n hx hb dX8_forget_19 rfl (lv_at hl 0 rfl) ?_
        refine lv_iconst (v := 0) hx hb dX8_forget_20 (by decide) ?_
        refine x_zast (ws' := fun f_18 => [((o 8), .inr (8, [.ref (o 3), .ref (o 4), .ref (o 6), .ref (o 74), .ref (o 75), .ref (o 76)])), ((o 74), .inl (k 0, 3, .inl f_17)), ((o 76), .inl (k 3, 3, .inl f_18)), ((o 6), .inr (1, [.ref (o 3), .ref (o 4), .int tlawNow, .int tharder, .int ttold, .int treply, .int twet, .ref (o 73)])), ((o 73), .inl (k 0, 17, .inl f73)), ((o 4), .inr (3, [.ref (o 69), .ref (o 70), .ref (o 71)])), ((o 69), .inl (k 0, 17, .inl f69)), ((o 70), .inl (k 0, 17, .inl f70)), ((o 71), .inl (k 0, 17, .inl f71)), ((o 3), .inr (2, [.int glines, .int (nI ghours), .int glaw, .int godds, .int (nI grows), .int (nI gheads), .int (nI gsayings), .int (nI gslugs), .int (nI gacts), .ref (o 26), .ref (o 27), .ref (o 28), .ref (o 29), .ref (o 30), .ref (o 31), .ref (o 32), .ref (o 33), .ref (o 34), .ref (o 35)])), ((o 26), .inl (k 0, 12, .inl f26)), ((o 30), .inl (k 0, 12, .inl f30)), ((o 31), .inl (k 0, 12, .inl f31))]) S hK hP hD hS 2 rfl (vp_in_nI (by omega) (by decide)) (fun _ => rfl) dX8_forget_21 (fun f_18 H locs ef_18 hP hD hS => ?_)
        refine lv_iinc (v := (nI (j_12 + 1))) (lv' := [(1, .int (nI (j_12 + 1))), (0, .ref (o 8))]) hx hb dX8_forget_22 hl (k := 0) rfl (ni_inc _) (by decide) rfl (fun ls hl => ?_)
        refine lv_goto (tgt := 2) hx hb dX8_forget_25 (by decide) ?_
        exact ihj_12 (j_12 + 1) f_17 f_18 _ _ _ (by omega) (by omega) hP hD hS (lv_sub hl [0, 1] rfl)
  exact lp_15 (3 + 1) 0 f74 f76 _ _ _ (by omega) (by omega) hP hD hS (lv_sub hl [0, 1] rfl)

set_option maxHeartbeats 4000000 in
set_option maxRecDepth 100000 in
theorem ctX8_holdersTold (l : Launch) (D : va_G) (k : Nat → ClassId) (z : Nat → Nat) (o : Nat → Nat) (f74 : Nat → Int32) (f76 : Nat → Int32) (tlawNow : Int32) (tharder : Int32) (ttold : Int32) (treply : Int32) (twet : Int32) (f73 : Nat → Int32) (f69 : Nat → Int32) (f70 : Nat → Int32) (f71 : Nat → Int32) (glines : Int32) (ghours : Nat) (glaw : Int32) (godds : Int32) (grows : Nat) (gheads : Nat) (gsayings : Nat) (gslugs : Nat) (gacts : Nat) (f26 : Nat → Int32) (f30 : Nat → Int32) (f31 : Nat → Int32) (p0 : Int32) (p1 : Int32) (hghours : ghours ≤ 16) (hgrows : grows ≤ 4) (hgheads : gheads ≤ 12) (hgsayings : gsayings ≤ 8) (hgslugs : gslugs ≤ 4) (hgacts : gacts ≤ 30) : MU l yX8_holdersTold cX8_holdersTold 3 (some .int) 4 D k z [.ref (o 8), .int p0, .int p1] [((o 8), .inr (8, [.ref (o 3), .ref (o 4), .ref (o 6), .ref (o 74), .ref (o 75), .ref (o 76)])), ((o 74), .inl (k 0, 3, .inl f74)), ((o 76), .inl (k 3, 3, .inl f76)), ((o 6), .inr (1, [.ref (o 3), .ref (o 4), .int tlawNow, .int tharder, .int ttold, .int treply, .int twet, .ref (o 73)])), ((o 73), .inl (k 0, 17, .inl f73)), ((o 4), .inr (3, [.ref (o 69), .ref (o 70), .ref (o 71)])), ((o 69), .inl (k 0, 17, .inl f69)), ((o 70), .inl (k 0, 17, .inl f70)), ((o 71), .inl (k 0, 17, .inl f71)), ((o 3), .inr (2, [.int glines, .int (nI ghours), .int glaw, .int godds, .int (nI grows), .int (nI gheads), .int (nI gsayings), .int (nI gslugs), .int (nI gacts), .ref (o 26), .ref (o 27), .ref (o 28), .ref (o 29), .ref (o 30), .ref (o 31), .ref (o 32), .ref (o 33), .ref (o 34), .ref (o 35)])), ((o 26), .inl (k 0, 12, .inl f26)), ((o 30), .inl (k 0, 12, .inl f30)), ((o 31), .inl (k 0, 12, .inl f31))] 0 0 (Ui D (fun (r : Int32) (u : (Nat → Int32) × (Nat → Nat) × (Nat → Nat → Int32) × (Nat → Nat → Int64) × (Nat → Int64)) => True) (fun u : (Nat → Int32) × (Nat → Nat) × (Nat → Nat → Int32) × (Nat → Nat → Int64) × (Nat → Int64) => [((o 8), .inr (8, [.ref (o 3), .ref (o 4), .ref (o 6), .ref (o 74), .ref (o 75), .ref (o 76)])), ((o 74), .inl (k 0, 3, .inl f74)), ((o 76), .inl (k 3, 3, .inl f76)), ((o 6), .inr (1, [.ref (o 3), .ref (o 4), .int (u.1 0), .int (u.1 1), .int (u.1 2), .int (u.1 3), .int (u.1 4), .ref (o 73)])), ((o 73), .inl (k 0, 17, .inl (u.2.2.1 0))), ((o 4), .inr (3, [.ref (o 69), .ref (o 70), .ref (o 71)])), ((o 69), .inl (k 0, 17, .inl f69)), ((o 70), .inl (k 0, 17, .inl f70)), ((o 71), .inl (k 0, 17, .inl f71)), ((o 3), .inr (2, [.int glines, .int (nI ghours), .int glaw, .int godds, .int (nI grows), .int (nI gheads), .int (nI gsayings), .int (nI gslugs), .int (nI gacts), .ref (o 26), .ref (o 27), .ref (o 28), .ref (o 29), .ref (o 30), .ref (o 31), .ref (o 32), .ref (o 33), .ref (o 34), .ref (o 35)])), ((o 26), .inl (k 0, 12, .inl f26)), ((o 30), .inl (k 0, 12, .inl f30)), ((o 31), .inl (k 0, 12, .inl f31))])) := by
  refine MU.of (by decide) (Nat.le_of_ble_eq_true rfl) ?_
  intro p e s m below meth c ls A args Q S hr hlk hnm hQ hK hP hD hZ hA hS hl
  have hx := S.1
  have hb := S.2.1
  have hl : lv_has ls 3 [(0, .ref (o 8)), (1, .int p0), (2, .int p1)] := hl
  refine lv_aload_n hx hb dX8_holdersTold_0 rfl (lv_at hl 0 rfl) ?_
  refine x_get S hK hP 0 rfl cfX8 2 lkX8_32 (by decide) rfl dX8_holdersTold_1 ?_
  refine lv_iload_n hx hb dX8_holdersTold_4 rfl (lv_at hl 1 rfl) ?_
  refine lv_iload_n hx hb dX8_holdersTold_5 rfl (lv_at hl 2 rfl) ?_
  refine x_muVv (wr := [((o 8), .inr (8, [.ref (o 3), .ref (o 4), .ref (o 6), .ref (o 74), .ref (o 75), .ref (o 76)])), ((o 74), .inl (k 0, 3, .inl f74)), ((o 76), .inl (k 3, 3, .inl f76))]) (As := [.int p0, .int p1]) S hK hP hD hZ hS hA hl mwX1_asTold lkX8_36 (ctX1_asTold_c l D k z (fun i => ([0, 0, 0, (o 3), (o 4), (o 6), 0, 0, 0, 0, 0, 0, 0, 0, 0, 0, 0, 0, 0, 0, 0, 0, 0, 0, 0, 0, (o 26), (o 27), (o 28), (o 29), (o 30), (o 31), (o 32), (o 33), (o 34), (o 35), 0, 0, 0, 0, 0, 0, 0, 0, 0, 0, 0, 0, 0, 0, 0, 0, 0, 0, 0, 0, 0, 0, 0, 0, 0, 0, 0, 0, 0, 0, 0, 0, 0, (o 69), (o 70), (o 71), (o 73)] : List Nat).getD i 0) tlawNow tharder ttold treply twet f73 f69 f70 f71 glines ghours glaw godds grows gheads gsayings gslugs gacts f26 f30 f31 p0 p1 (by omega) (by omega) (by omega) (by omega) (by omega) (by omega)) [3, 4, 5, 6, 7, 8, 9, 10, 11, 12] [0, 1, 2] rfl rfl (by decide) (by decide) (by decide) rfl rfl rfl rfl rfl ⟨Nat.le_of_ble_eq_true rfl, Nat.le_of_ble_eq_true rfl, Nat.le_of_ble_eq_true rfl⟩ dX8_holdersTold_6 ⟨Nat.le_of_ble_eq_true rfl, Nat.le_of_ble_eq_true rfl⟩ (fun u_2 H locs hr_1 hP hD hS => ?_)
  have hP : va_P D vwCl [((o 8), .inr (8, [.ref (o 3), .ref (o 4), .ref (o 6), .ref (o 74), .ref (o 75), .ref (o 76)])), ((o 74), .inl (k 0, 3, .inl f74)), ((o 76), .inl (k 3, 3, .inl f76)), ((o 6), .inr (1, [.ref (o 3), .ref (o 4), .int (u_2.1 0), .int (u_2.1 1), .int (u_2.1 2), .int (u_2.1 3), .int (u_2.1 4), .ref (o 73)])), ((o 73), .inl (k 0, 17, .inl f73)), ((o 4), .inr (3, [.ref (o 69), .ref (o 70), .ref (o 71)])), ((o 69), .inl (k 0, 17, .inl f69)), ((o 70), .inl (k 0, 17, .inl f70)), ((o 71), .inl (k 0, 17, .inl f71)), ((o 3), .inr (2, [.int glines, .int (nI ghours), .int glaw, .int godds, .int (nI grows), .int (nI gheads), .int (nI gsayings), .int (nI gslugs), .int (nI gacts), .ref (o 26), .ref (o 27), .ref (o 28), .ref (o 29), .ref (o 30), .ref (o 31), .ref (o 32), .ref (o 33), .ref (o 34), .ref (o 35)])), ((o 26), .inl (k 0, 12, .inl f26)), ((o 30), .inl (k 0, 12, .inl f30)), ((o 31), .inl (k 0, 12, .inl f31))] H := hP.sub [0, 1, 2, 3, 4, 5, 6, 7, 8, 9, 10, 11, 12] rfl
  have hD : va_D A [((o 8), .inr (8, [.ref (o 3), .ref (o 4), .ref (o 6), .ref (o 74), .ref (o 75), .ref (o 76)])), ((o 74), .inl (k 0, 3, .inl f74)), ((o 76), .inl (k 3, 3, .inl f76)), ((o 6), .inr (1, [.ref (o 3), .ref (o 4), .int (u_2.1 0), .int (u_2.1 1), .int (u_2.1 2), .int (u_2.1 3), .int (u_2.1 4), .ref (o 73)])), ((o 73), .inl (k 0, 17, .inl f73)), ((o 4), .inr (3, [.ref (o 69), .ref (o 70), .ref (o 71)])), ((o 69), .inl (k 0, 17, .inl f69)), ((o 70), .inl (k 0, 17, .inl f70)), ((o 71), .inl (k 0, 17, .inl f71)), ((o 3), .inr (2, [.int glines, .int (nI ghours), .int glaw, .int godds, .int (nI grows), .int (nI gheads), .int (nI gsayings), .int (nI gslugs), .int (nI gacts), .ref (o 26), .ref (o 27), .ref (o 28), .ref (o 29), .ref (o 30), .ref (o 31), .ref (o 32), .ref (o 33), .ref (o 34), .ref (o 35)])), ((o 26), .inl (k 0, 12, .inl f26)), ((o 30), .inl (k 0, 12, .inl f30)), ((o 31), .inl (k 0, 12, .inl f31))] := hD.sub [0, 1, 2, 3, 4, 5, 6, 7, 8, 9, 10, 11, 12] (by decide) rfl
  refine lv_aload_n hx hb dX8_holdersTold_9 rfl (lv_at hl 0 rfl) ?_
  refine x_get S hK hP 0 rfl cfX8 2 lkX8_32 (by decide) rfl dX8_holdersTold_10 ?_
  refine x_muVv (wr := [((o 8), .inr (8, [.ref (o 3), .ref (o 4), .ref (o 6), .ref (o 74), .ref (o 75), .ref (o 76)])), ((o 74), .inl (k 0, 3, .inl f74)), ((o 76), .inl (k 3, 3, .inl f76))]) (As := []) S hK hP hD hZ hS hA hl mwX1_run lkX8_42 (ctX1_run_c l D k z (fun i => ([0, 0, 0, (o 3), (o 4), (o 6), 0, 0, 0, 0, 0, 0, 0, 0, 0, 0, 0, 0, 0, 0, 0, 0, 0, 0, 0, 0, (o 26), (o 27), (o 28), (o 29), (o 30), (o 31), (o 32), (o 33), (o 34), (o 35), 0, 0, 0, 0, 0, 0, 0, 0, 0, 0, 0, 0, 0, 0, 0, 0, 0, 0, 0, 0, 0, 0, 0, 0, 0, 0, 0, 0, 0, 0, 0, 0, 0, (o 69), (o 70), (o 71), (o 73)] : List Nat).getD i 0) (u_2.1 0) (u_2.1 1) (u_2.1 2) (u_2.1 3) (u_2.1 4) f73 f69 f70 f71 glines ghours glaw godds grows gheads gsayings gslugs gacts f26 f30 f31 (by omega) (by omega) (by omega) (by omega) (by omega) (by omega)) [3, 4, 5, 6, 7, 8, 9, 10, 11, 12] [0, 1, 2] rfl rfl (by decide) (by decide) (by decide) rfl rfl rfl rfl rfl ⟨Nat.le_of_ble_eq_true rfl, Nat.le_of_ble_eq_true rfl, Nat.le_of_ble_eq_true rfl⟩ dX8_holdersTold_13 ⟨Nat.le_of_ble_eq_true rfl, Nat.le_of_ble_eq_true rfl⟩ (fun u_4 H locs hr_3 hP hD hS => ?_)
  have hP : va_P D vwCl [((o 8), .inr (8, [.ref (o 3), .ref (o 4), .ref (o 6), .ref (o 74), .ref (o 75), .ref (o 76)])), ((o 74), .inl (k 0, 3, .inl f74)), ((o 76), .inl (k 3, 3, .inl f76)), ((o 6), .inr (1, [.ref (o 3), .ref (o 4), .int (u_2.1 0), .int (u_2.1 1), .int (u_2.1 2), .int (u_2.1 3), .int (u_2.1 4), .ref (o 73)])), ((o 73), .inl (k 0, 17, .inl (u_4.2.2.1 0))), ((o 4), .inr (3, [.ref (o 69), .ref (o 70), .ref (o 71)])), ((o 69), .inl (k 0, 17, .inl f69)), ((o 70), .inl (k 0, 17, .inl f70)), ((o 71), .inl (k 0, 17, .inl f71)), ((o 3), .inr (2, [.int glines, .int (nI ghours), .int glaw, .int godds, .int (nI grows), .int (nI gheads), .int (nI gsayings), .int (nI gslugs), .int (nI gacts), .ref (o 26), .ref (o 27), .ref (o 28), .ref (o 29), .ref (o 30), .ref (o 31), .ref (o 32), .ref (o 33), .ref (o 34), .ref (o 35)])), ((o 26), .inl (k 0, 12, .inl f26)), ((o 30), .inl (k 0, 12, .inl f30)), ((o 31), .inl (k 0, 12, .inl f31))] H := hP.sub [0, 1, 2, 3, 4, 5, 6, 7, 8, 9, 10, 11, 12] rfl
  have hD : va_D A [((o 8), .inr (8, [.ref (o 3), .ref (o 4), .ref (o 6), .ref (o 74), .ref (o 75), .ref (o 76)])), ((o 74), .inl (k 0, 3, .inl f74)), ((o 76), .inl (k 3, 3, .inl f76)), ((o 6), .inr (1, [.ref (o 3), .ref (o 4), .int (u_2.1 0), .int (u_2.1 1), .int (u_2.1 2), .int (u_2.1 3), .int (u_2.1 4), .ref (o 73)])), ((o 73), .inl (k 0, 17, .inl (u_4.2.2.1 0))), ((o 4), .inr (3, [.ref (o 69), .ref (o 70), .ref (o 71)])), ((o 69), .inl (k 0, 17, .inl f69)), ((o 70), .inl (k 0, 17, .inl f70)), ((o 71), .inl (k 0, 17, .inl f71)), ((o 3), .inr (2, [.int glines, .int (nI ghours), .int glaw, .int godds, .int (nI grows), .int (nI gheads), .int (nI gsayings), .int (nI gslugs), .int (nI gacts), .ref (o 26), .ref (o 27), .ref (o 28), .ref (o 29), .ref (o 30), .ref (o 31), .ref (o 32), .ref (o 33), .ref (o 34), .ref (o 35)])), ((o 26), .inl (k 0, 12, .inl f26)), ((o 30), .inl (k 0, 12, .inl f30)), ((o 31), .inl (k 0, 12, .inl f31))] := hD.sub [0, 1, 2, 3, 4, 5, 6, 7, 8, 9, 10, 11, 12] (by decide) rfl
  refine lv_aload_n hx hb dX8_holdersTold_16 rfl (lv_at hl 0 rfl) ?_
  refine x_get S hK hP 0 rfl cfX8 2 lkX8_32 (by decide) rfl dX8_holdersTold_17 ?_
  refine x_roVi (As := []) S hK hP hD hZ (fun _ h => h) hA hS hA hl mwX1_lastState lkX8_45 (ctX1_lastState_c l D k z (fun i => ([0, 0, 0, (o 3), (o 4), (o 6), 0, 0, 0, 0, 0, 0, 0, 0, 0, 0, 0, 0, 0, 0, 0, 0, 0, 0, 0, 0, (o 26), (o 27), (o 28), (o 29), (o 30), (o 31), (o 32), (o 33), (o 34), (o 35), 0, 0, 0, 0, 0, 0, 0, 0, 0, 0, 0, 0, 0, 0, 0, 0, 0, 0, 0, 0, 0, 0, 0, 0, 0, 0, 0, 0, 0, 0, 0, 0, 0, (o 69), (o 70), (o 71), (o 73)] : List Nat).getD i 0) (u_2.1 0) (u_2.1 1) (u_2.1 2) (u_2.1 3) (u_2.1 4) (u_4.2.2.1 0) f69 f70 f71 glines ghours glaw godds grows gheads gsayings gslugs gacts f26 f30 f31 (by omega) (by omega) (by omega) (by omega) (by omega) (by omega)) [3, 4, 5, 6, 7, 8, 9, 10, 11, 12] rfl (by decide) rfl rfl rfl rfl rfl ⟨Nat.le_of_ble_eq_true rfl, Nat.le_of_ble_eq_true rfl, Nat.le_of_ble_eq_true rfl⟩ dX8_holdersTold_20 ⟨Nat.le_of_ble_eq_true rfl, Nat.le_of_ble_eq_true rfl⟩ (fun r_5 H locs hr_5 hP hS => ?_)
  refine lv_iload_n hx hb dX8_holdersTold_23 rfl (lv_at hl 1 rfl) ?_
  refine x_roSNi (As := [.int r_5, .int p0]) S hK hP hD hZ (fun _ h => h) hA hS hA hl mwX10_holdersIn lkX8_49 (ctX10_holdersIn l D k z r_5 p0 ) [] rfl (by decide) rfl rfl ⟨Nat.le_of_ble_eq_true rfl, Nat.le_of_ble_eq_true rfl, Nat.le_of_ble_eq_true rfl⟩ dX8_holdersTold_24 ⟨Nat.le_of_ble_eq_true rfl, Nat.le_of_ble_eq_true rfl⟩ (fun r_7 H locs hr_7 hP hS => ?_)
  exact x_reti S hr hlk hQ hS ((fun i => ([(u_2.1 0), (u_2.1 1), (u_2.1 2), (u_2.1 3), (u_2.1 4)] : List (Int32)).getD i 0), (fun i => ([] : List (Nat)).getD i 0), (fun i => ([(u_4.2.2.1 0)] : List (Nat → Int32)).getD i (fun _ => 0)), (fun i => ([] : List (Nat → Int64)).getD i (fun _ => 0)), (fun i => ([] : List (Int64)).getD i 0)) trivial (x_B hP hD) dX8_holdersTold_27

set_option maxHeartbeats 4000000 in
set_option maxRecDepth 100000 in
theorem ctX8_winsAll (l : Launch) (D : va_G) (k : Nat → ClassId) (z : Nat → Nat) (o : Nat → Nat) (f74 : Nat → Int32) (f76 : Nat → Int32) (tlawNow : Int32) (tharder : Int32) (ttold : Int32) (treply : Int32) (twet : Int32) (f73 : Nat → Int32) (f69 : Nat → Int32) (f70 : Nat → Int32) (f71 : Nat → Int32) (glines : Int32) (ghours : Nat) (glaw : Int32) (godds : Int32) (grows : Nat) (gheads : Nat) (gsayings : Nat) (gslugs : Nat) (gacts : Nat) (f26 : Nat → Int32) (f30 : Nat → Int32) (f31 : Nat → Int32) (p0 : Int32) (p1 : Int32) (hghours : ghours ≤ 16) (hgrows : grows ≤ 4) (hgheads : gheads ≤ 12) (hgsayings : gsayings ≤ 8) (hgslugs : gslugs ≤ 4) (hgacts : gacts ≤ 30) : MU l yX8_winsAll cX8_winsAll 4 (some .boolean) 4 D k z [.ref (o 8), .int p0, .int p1] [((o 8), .inr (8, [.ref (o 3), .ref (o 4), .ref (o 6), .ref (o 74), .ref (o 75), .ref (o 76)])), ((o 74), .inl (k 0, 3, .inl f74)), ((o 76), .inl (k 3, 3, .inl f76)), ((o 6), .inr (1, [.ref (o 3), .ref (o 4), .int tlawNow, .int tharder, .int ttold, .int treply, .int twet, .ref (o 73)])), ((o 73), .inl (k 0, 17, .inl f73)), ((o 4), .inr (3, [.ref (o 69), .ref (o 70), .ref (o 71)])), ((o 69), .inl (k 0, 17, .inl f69)), ((o 70), .inl (k 0, 17, .inl f70)), ((o 71), .inl (k 0, 17, .inl f71)), ((o 3), .inr (2, [.int glines, .int (nI ghours), .int glaw, .int godds, .int (nI grows), .int (nI gheads), .int (nI gsayings), .int (nI gslugs), .int (nI gacts), .ref (o 26), .ref (o 27), .ref (o 28), .ref (o 29), .ref (o 30), .ref (o 31), .ref (o 32), .ref (o 33), .ref (o 34), .ref (o 35)])), ((o 26), .inl (k 0, 12, .inl f26)), ((o 30), .inl (k 0, 12, .inl f30)), ((o 31), .inl (k 0, 12, .inl f31))] 0 0 (Ui D (fun (r : Int32) (u : (Nat → Int32) × (Nat → Nat) × (Nat → Nat → Int32) × (Nat → Nat → Int64) × (Nat → Int64)) => True) (fun u : (Nat → Int32) × (Nat → Nat) × (Nat → Nat → Int32) × (Nat → Nat → Int64) × (Nat → Int64) => [((o 8), .inr (8, [.ref (o 3), .ref (o 4), .ref (o 6), .ref (o 74), .ref (o 75), .ref (o 76)])), ((o 74), .inl (k 0, 3, .inl f74)), ((o 76), .inl (k 3, 3, .inl f76)), ((o 6), .inr (1, [.ref (o 3), .ref (o 4), .int (u.1 0), .int (u.1 1), .int (u.1 2), .int (u.1 3), .int (u.1 4), .ref (o 73)])), ((o 73), .inl (k 0, 17, .inl (u.2.2.1 0))), ((o 4), .inr (3, [.ref (o 69), .ref (o 70), .ref (o 71)])), ((o 69), .inl (k 0, 17, .inl f69)), ((o 70), .inl (k 0, 17, .inl f70)), ((o 71), .inl (k 0, 17, .inl f71)), ((o 3), .inr (2, [.int glines, .int (nI ghours), .int glaw, .int godds, .int (nI grows), .int (nI gheads), .int (nI gsayings), .int (nI gslugs), .int (nI gacts), .ref (o 26), .ref (o 27), .ref (o 28), .ref (o 29), .ref (o 30), .ref (o 31), .ref (o 32), .ref (o 33), .ref (o 34), .ref (o 35)])), ((o 26), .inl (k 0, 12, .inl f26)), ((o 30), .inl (k 0, 12, .inl f30)), ((o 31), .inl (k 0, 12, .inl f31))])) := by
  refine MU.of (by decide) (Nat.le_of_ble_eq_true rfl) ?_
  intro p e s m below meth c ls A args Q S hr hlk hnm hQ hK hP hD hZ hA hS hl
  have hx := S.1
  have hb := S.2.1
  have hl : lv_has ls 4 [(0, .ref (o 8)), (1, .int p0), (2, .int p1)] := hl
  refine lv_aload_n hx hb dX8_winsAll_0 rfl (lv_at hl 0 rfl) ?_
  refine x_get S hK hP 0 rfl cfX8 2 lkX8_32 (by decide) rfl dX8_winsAll_1 ?_
  refine lv_iload_n hx hb dX8_winsAll_4 rfl (lv_at hl 1 rfl) ?_
  refine lv_iload_n hx hb dX8_winsAll_5 rfl (lv_at hl 2 rfl) ?_
  refine x_muVv (wr := [((o 8), .inr (8, [.ref (o 3), .ref (o 4), .ref (o 6), .ref (o 74), .ref (o 75), .ref (o 76)])), ((o 74), .inl (k 0, 3, .inl f74)), ((o 76), .inl (k 3, 3, .inl f76))]) (As := [.int p0, .int p1]) S hK hP hD hZ hS hA hl mwX1_asTold lkX8_36 (ctX1_asTold_c l D k z (fun i => ([0, 0, 0, (o 3), (o 4), (o 6), 0, 0, 0, 0, 0, 0, 0, 0, 0, 0, 0, 0, 0, 0, 0, 0, 0, 0, 0, 0, (o 26), (o 27), (o 28), (o 29), (o 30), (o 31), (o 32), (o 33), (o 34), (o 35), 0, 0, 0, 0, 0, 0, 0, 0, 0, 0, 0, 0, 0, 0, 0, 0, 0, 0, 0, 0, 0, 0, 0, 0, 0, 0, 0, 0, 0, 0, 0, 0, 0, (o 69), (o 70), (o 71), (o 73)] : List Nat).getD i 0) tlawNow tharder ttold treply twet f73 f69 f70 f71 glines ghours glaw godds grows gheads gsayings gslugs gacts f26 f30 f31 p0 p1 (by omega) (by omega) (by omega) (by omega) (by omega) (by omega)) [3, 4, 5, 6, 7, 8, 9, 10, 11, 12] [0, 1, 2] rfl rfl (by decide) (by decide) (by decide) rfl rfl rfl rfl rfl ⟨Nat.le_of_ble_eq_true rfl, Nat.le_of_ble_eq_true rfl, Nat.le_of_ble_eq_true rfl⟩ dX8_winsAll_6 ⟨Nat.le_of_ble_eq_true rfl, Nat.le_of_ble_eq_true rfl⟩ (fun u_2 H locs hr_1 hP hD hS => ?_)
  have hP : va_P D vwCl [((o 8), .inr (8, [.ref (o 3), .ref (o 4), .ref (o 6), .ref (o 74), .ref (o 75), .ref (o 76)])), ((o 74), .inl (k 0, 3, .inl f74)), ((o 76), .inl (k 3, 3, .inl f76)), ((o 6), .inr (1, [.ref (o 3), .ref (o 4), .int (u_2.1 0), .int (u_2.1 1), .int (u_2.1 2), .int (u_2.1 3), .int (u_2.1 4), .ref (o 73)])), ((o 73), .inl (k 0, 17, .inl f73)), ((o 4), .inr (3, [.ref (o 69), .ref (o 70), .ref (o 71)])), ((o 69), .inl (k 0, 17, .inl f69)), ((o 70), .inl (k 0, 17, .inl f70)), ((o 71), .inl (k 0, 17, .inl f71)), ((o 3), .inr (2, [.int glines, .int (nI ghours), .int glaw, .int godds, .int (nI grows), .int (nI gheads), .int (nI gsayings), .int (nI gslugs), .int (nI gacts), .ref (o 26), .ref (o 27), .ref (o 28), .ref (o 29), .ref (o 30), .ref (o 31), .ref (o 32), .ref (o 33), .ref (o 34), .ref (o 35)])), ((o 26), .inl (k 0, 12, .inl f26)), ((o 30), .inl (k 0, 12, .inl f30)), ((o 31), .inl (k 0, 12, .inl f31))] H := hP.sub [0, 1, 2, 3, 4, 5, 6, 7, 8, 9, 10, 11, 12] rfl
  have hD : va_D A [((o 8), .inr (8, [.ref (o 3), .ref (o 4), .ref (o 6), .ref (o 74), .ref (o 75), .ref (o 76)])), ((o 74), .inl (k 0, 3, .inl f74)), ((o 76), .inl (k 3, 3, .inl f76)), ((o 6), .inr (1, [.ref (o 3), .ref (o 4), .int (u_2.1 0), .int (u_2.1 1), .int (u_2.1 2), .int (u_2.1 3), .int (u_2.1 4), .ref (o 73)])), ((o 73), .inl (k 0, 17, .inl f73)), ((o 4), .inr (3, [.ref (o 69), .ref (o 70), .ref (o 71)])), ((o 69), .inl (k 0, 17, .inl f69)), ((o 70), .inl (k 0, 17, .inl f70)), ((o 71), .inl (k 0, 17, .inl f71)), ((o 3), .inr (2, [.int glines, .int (nI ghours), .int glaw, .int godds, .int (nI grows), .int (nI gheads), .int (nI gsayings), .int (nI gslugs), .int (nI gacts), .ref (o 26), .ref (o 27), .ref (o 28), .ref (o 29), .ref (o 30), .ref (o 31), .ref (o 32), .ref (o 33), .ref (o 34), .ref (o 35)])), ((o 26), .inl (k 0, 12, .inl f26)), ((o 30), .inl (k 0, 12, .inl f30)), ((o 31), .inl (k 0, 12, .inl f31))] := hD.sub [0, 1, 2, 3, 4, 5, 6, 7, 8, 9, 10, 11, 12] (by decide) rfl
  refine lv_aload_n hx hb dX8_winsAll_9 rfl (lv_at hl 0 rfl) ?_
  refine x_get S hK hP 0 rfl cfX8 2 lkX8_32 (by decide) rfl dX8_winsAll_10 ?_
  refine x_muVv (wr := [((o 8), .inr (8, [.ref (o 3), .ref (o 4), .ref (o 6), .ref (o 74), .ref (o 75), .ref (o 76)])), ((o 74), .inl (k 0, 3, .inl f74)), ((o 76), .inl (k 3, 3, .inl f76))]) (As := []) S hK hP hD hZ hS hA hl mwX1_run lkX8_42 (ctX1_run_c l D k z (fun i => ([0, 0, 0, (o 3), (o 4), (o 6), 0, 0, 0, 0, 0, 0, 0, 0, 0, 0, 0, 0, 0, 0, 0, 0, 0, 0, 0, 0, (o 26), (o 27), (o 28), (o 29), (o 30), (o 31), (o 32), (o 33), (o 34), (o 35), 0, 0, 0, 0, 0, 0, 0, 0, 0, 0, 0, 0, 0, 0, 0, 0, 0, 0, 0, 0, 0, 0, 0, 0, 0, 0, 0, 0, 0, 0, 0, 0, 0, (o 69), (o 70), (o 71), (o 73)] : List Nat).getD i 0) (u_2.1 0) (u_2.1 1) (u_2.1 2) (u_2.1 3) (u_2.1 4) f73 f69 f70 f71 glines ghours glaw godds grows gheads gsayings gslugs gacts f26 f30 f31 (by omega) (by omega) (by omega) (by omega) (by omega) (by omega)) [3, 4, 5, 6, 7, 8, 9, 10, 11, 12] [0, 1, 2] rfl rfl (by decide) (by decide) (by decide) rfl rfl rfl rfl rfl ⟨Nat.le_of_ble_eq_true rfl, Nat.le_of_ble_eq_true rfl, Nat.le_of_ble_eq_true rfl⟩ dX8_winsAll_13 ⟨Nat.le_of_ble_eq_true rfl, Nat.le_of_ble_eq_true rfl⟩ (fun u_4 H locs hr_3 hP hD hS => ?_)
  have hP : va_P D vwCl [((o 8), .inr (8, [.ref (o 3), .ref (o 4), .ref (o 6), .ref (o 74), .ref (o 75), .ref (o 76)])), ((o 74), .inl (k 0, 3, .inl f74)), ((o 76), .inl (k 3, 3, .inl f76)), ((o 6), .inr (1, [.ref (o 3), .ref (o 4), .int (u_2.1 0), .int (u_2.1 1), .int (u_2.1 2), .int (u_2.1 3), .int (u_2.1 4), .ref (o 73)])), ((o 73), .inl (k 0, 17, .inl (u_4.2.2.1 0))), ((o 4), .inr (3, [.ref (o 69), .ref (o 70), .ref (o 71)])), ((o 69), .inl (k 0, 17, .inl f69)), ((o 70), .inl (k 0, 17, .inl f70)), ((o 71), .inl (k 0, 17, .inl f71)), ((o 3), .inr (2, [.int glines, .int (nI ghours), .int glaw, .int godds, .int (nI grows), .int (nI gheads), .int (nI gsayings), .int (nI gslugs), .int (nI gacts), .ref (o 26), .ref (o 27), .ref (o 28), .ref (o 29), .ref (o 30), .ref (o 31), .ref (o 32), .ref (o 33), .ref (o 34), .ref (o 35)])), ((o 26), .inl (k 0, 12, .inl f26)), ((o 30), .inl (k 0, 12, .inl f30)), ((o 31), .inl (k 0, 12, .inl f31))] H := hP.sub [0, 1, 2, 3, 4, 5, 6, 7, 8, 9, 10, 11, 12] rfl
  have hD : va_D A [((o 8), .inr (8, [.ref (o 3), .ref (o 4), .ref (o 6), .ref (o 74), .ref (o 75), .ref (o 76)])), ((o 74), .inl (k 0, 3, .inl f74)), ((o 76), .inl (k 3, 3, .inl f76)), ((o 6), .inr (1, [.ref (o 3), .ref (o 4), .int (u_2.1 0), .int (u_2.1 1), .int (u_2.1 2), .int (u_2.1 3), .int (u_2.1 4), .ref (o 73)])), ((o 73), .inl (k 0, 17, .inl (u_4.2.2.1 0))), ((o 4), .inr (3, [.ref (o 69), .ref (o 70), .ref (o 71)])), ((o 69), .inl (k 0, 17, .inl f69)), ((o 70), .inl (k 0, 17, .inl f70)), ((o 71), .inl (k 0, 17, .inl f71)), ((o 3), .inr (2, [.int glines, .int (nI ghours), .int glaw, .int godds, .int (nI grows), .int (nI gheads), .int (nI gsayings), .int (nI gslugs), .int (nI gacts), .ref (o 26), .ref (o 27), .ref (o 28), .ref (o 29), .ref (o 30), .ref (o 31), .ref (o 32), .ref (o 33), .ref (o 34), .ref (o 35)])), ((o 26), .inl (k 0, 12, .inl f26)), ((o 30), .inl (k 0, 12, .inl f30)), ((o 31), .inl (k 0, 12, .inl f31))] := hD.sub [0, 1, 2, 3, 4, 5, 6, 7, 8, 9, 10, 11, 12] (by decide) rfl
  refine lv_aload_n hx hb dX8_winsAll_16 rfl (lv_at hl 0 rfl) ?_
  refine x_get S hK hP 0 rfl cfX8 0 lkX8_24 (by decide) rfl dX8_winsAll_17 ?_
  refine x_roVi (As := []) S hK hP hD hZ (fun _ h => h) hA hS hA hl mwX2_everyone lkX8_53 (ctX2_everyone l D k z o glines ghours glaw godds grows gheads gsayings gslugs gacts (by omega) (by omega) (by omega) (by omega) (by omega) (by omega)) [9] rfl (by decide) rfl rfl rfl rfl rfl ⟨Nat.le_of_ble_eq_true rfl, Nat.le_of_ble_eq_true rfl, Nat.le_of_ble_eq_true rfl⟩ dX8_winsAll_20 ⟨Nat.le_of_ble_eq_true rfl, Nat.le_of_ble_eq_true rfl⟩ (fun r_5 H locs hr_5 hP hS => ?_)
  refine lv_aload_n hx hb dX8_winsAll_23 rfl (lv_at hl 0 rfl) ?_
  refine x_get S hK hP 0 rfl cfX8 1 lkX8_28 (by decide) rfl dX8_winsAll_24 ?_
  refine x_get S hK hP 5 rfl cfX3 1 lkX8_58 (by decide) rfl dX8_winsAll_27 ?_
  refine lv_aload_n hx hb dX8_winsAll_30 rfl (lv_at hl 0 rfl) ?_
  refine x_get S hK hP 0 rfl cfX8 0 lkX8_24 (by decide) rfl dX8_winsAll_31 ?_
  refine x_get S hK hP 9 rfl cfX2 1 lkX8_63 (by decide) rfl dX8_winsAll_34 ?_
  refine x_iald S hK hP 7 rfl (vp_in_nI (by omega) (by decide)) dX8_winsAll_37 ?_
  refine lv_topi (fun v_7 ev_7 => ?_)
  refine lv_iconst (v := (-1)) hx hb dX8_winsAll_38 (by decide) ?_
  refine lv_ixor hx hb dX8_winsAll_39 ?_
  refine lv_topi (fun v_8 ev_8 => ?_)
  refine lv_iand hx hb dX8_winsAll_40 ?_
  refine lv_topi (fun v_9 ev_9 => ?_)
  refine lv_istore_n (lv' := [(3, .int v_9), (0, .ref (o 8)), (1, .int p0), (2, .int p1)]) hx hb dX8_winsAll_41 rfl hl (by decide) rfl (fun ls hl => ?_)
  refine lv_iload_n hx hb dX8_winsAll_42 rfl (lv_at hl 0 rfl) ?_
  refine lv_aload_n hx hb dX8_winsAll_43 rfl (lv_at hl 1 rfl) ?_
  refine x_get S hK hP 0 rfl cfX8 2 lkX8_32 (by decide) rfl dX8_winsAll_44 ?_
  refine x_roVi (As := []) S hK hP hD hZ (fun _ h => h) hA hS hA hl mwX1_lastState lkX8_45 (ctX1_lastState_c l D k z (fun i => ([0, 0, 0, (o 3), (o 4), (o 6), 0, 0, 0, 0, 0, 0, 0, 0, 0, 0, 0, 0, 0, 0, 0, 0, 0, 0, 0, 0, (o 26), (o 27), (o 28), (o 29), (o 30), (o 31), (o 32), (o 33), (o 34), (o 35), 0, 0, 0, 0, 0, 0, 0, 0, 0, 0, 0, 0, 0, 0, 0, 0, 0, 0, 0, 0, 0, 0, 0, 0, 0, 0, 0, 0, 0, 0, 0, 0, 0, (o 69), (o 70), (o 71), (o 73)] : List Nat).getD i 0) (u_2.1 0) (u_2.1 1) (u_2.1 2) (u_2.1 3) (u_2.1 4) (u_4.2.2.1 0) f69 f70 f71 glines ghours glaw godds grows gheads gsayings gslugs gacts f26 f30 f31 (by omega) (by omega) (by omega) (by omega) (by omega) (by omega)) [3, 4, 5, 6, 7, 8, 9, 10, 11, 12] rfl (by decide) rfl rfl rfl rfl rfl ⟨Nat.le_of_ble_eq_true rfl, Nat.le_of_ble_eq_true rfl, Nat.le_of_ble_eq_true rfl⟩ dX8_winsAll_47 ⟨Nat.le_of_ble_eq_true rfl, Nat.le_of_ble_eq_true rfl⟩ (fun r_10 H locs hr_10 hP hS => ?_)
  refine lv_iload_n hx hb dX8_winsAll_50 rfl (lv_at hl 2 rfl) ?_
  refine x_roSNi (As := [.int r_10, .int p0]) S hK hP hD hZ (fun _ h => h) hA hS hA hl mwX10_holdersIn lkX8_49 (ctX10_holdersIn l D k z r_10 p0 ) [] rfl (by decide) rfl rfl ⟨Nat.le_of_ble_eq_true rfl, Nat.le_of_ble_eq_true rfl, Nat.le_of_ble_eq_true rfl⟩ dX8_winsAll_51 ⟨Nat.le_of_ble_eq_true rfl, Nat.le_of_ble_eq_true rfl⟩ (fun r_12 H locs hr_12 hP hS => ?_)
  refine lv_iconst (v := (-1)) hx hb dX8_winsAll_54 (by decide) ?_
  refine lv_ixor hx hb dX8_winsAll_55 ?_
  refine lv_topi (fun v_14 ev_14 => ?_)
  refine lv_iand hx hb dX8_winsAll_56 ?_
  refine lv_topi (fun v_15 ev_15 => ?_)
  refine lv_if_ne (tgt := 64) hx hb dX8_winsAll_57 (by decide) (fun c_16 => ?_) (fun c_16 => ?_)
  · skip
    refine lv_iconst (v := 0) hx hb dX8_winsAll_64 (by decide) ?_
    exact x_retz S hr hlk hQ hS rfl ((fun i => ([(u_2.1 0), (u_2.1 1), (u_2.1 2), (u_2.1 3), (u_2.1 4)] : List (Int32)).getD i 0), (fun i => ([] : List (Nat)).getD i 0), (fun i => ([(u_4.2.2.1 0)] : List (Nat → Int32)).getD i (fun _ => 0)), (fun i => ([] : List (Nat → Int64)).getD i (fun _ => 0)), (fun i => ([] : List (Int64)).getD i 0)) trivial (x_B hP hD) dX8_winsAll_65
  · skip
    refine lv_iconst (v := 1) hx hb dX8_winsAll_60 (by decide) ?_
    refine lv_goto (tgt := 65) hx hb dX8_winsAll_61 (by decide) ?_
    exact x_retz S hr hlk hQ hS rfl ((fun i => ([(u_2.1 0), (u_2.1 1), (u_2.1 2), (u_2.1 3), (u_2.1 4)] : List (Int32)).getD i 0), (fun i => ([] : List (Nat)).getD i 0), (fun i => ([(u_4.2.2.1 0)] : List (Nat → Int32)).getD i (fun _ => 0)), (fun i => ([] : List (Nat → Int64)).getD i (fun _ => 0)), (fun i => ([] : List (Int64)).getD i 0)) trivial (x_B hP hD) dX8_winsAll_65

set_option maxHeartbeats 4000000 in
set_option maxRecDepth 100000 in
theorem ctX8_loudest (l : Launch) (D : va_G) (k : Nat → ClassId) (z : Nat → Nat) (o : Nat → Nat) (f74 : Nat → Int32) (f76 : Nat → Int32) (tlawNow : Int32) (tharder : Int32) (ttold : Int32) (treply : Int32) (twet : Int32) (f73 : Nat → Int32) (f69 : Nat → Int32) (f70 : Nat → Int32) (f71 : Nat → Int32) (glines : Int32) (ghours : Nat) (glaw : Int32) (godds : Int32) (grows : Nat) (gheads : Nat) (gsayings : Nat) (gslugs : Nat) (gacts : Nat) (f26 : Nat → Int32) (f30 : Nat → Int32) (f31 : Nat → Int32) (p0 : Int32) (hghours : ghours ≤ 16) (hgrows : grows ≤ 4) (hgheads : gheads ≤ 12) (hgsayings : gsayings ≤ 8) (hgslugs : gslugs ≤ 4) (hgacts : gacts ≤ 30) : MU l yX8_loudest cX8_loudest 6 (some .int) 5 D k z [.ref (o 8), .int p0] [((o 8), .inr (8, [.ref (o 3), .ref (o 4), .ref (o 6), .ref (o 74), .ref (o 75), .ref (o 76)])), ((o 74), .inl (k 0, 3, .inl f74)), ((o 76), .inl (k 3, 3, .inl f76)), ((o 6), .inr (1, [.ref (o 3), .ref (o 4), .int tlawNow, .int tharder, .int ttold, .int treply, .int twet, .ref (o 73)])), ((o 73), .inl (k 0, 17, .inl f73)), ((o 4), .inr (3, [.ref (o 69), .ref (o 70), .ref (o 71)])), ((o 69), .inl (k 0, 17, .inl f69)), ((o 70), .inl (k 0, 17, .inl f70)), ((o 71), .inl (k 0, 17, .inl f71)), ((o 3), .inr (2, [.int glines, .int (nI ghours), .int glaw, .int godds, .int (nI grows), .int (nI gheads), .int (nI gsayings), .int (nI gslugs), .int (nI gacts), .ref (o 26), .ref (o 27), .ref (o 28), .ref (o 29), .ref (o 30), .ref (o 31), .ref (o 32), .ref (o 33), .ref (o 34), .ref (o 35)])), ((o 26), .inl (k 0, 12, .inl f26)), ((o 30), .inl (k 0, 12, .inl f30)), ((o 31), .inl (k 0, 12, .inl f31))] 0 0 (Ui D (fun (r : Int32) (u : (Nat → Int32) × (Nat → Nat) × (Nat → Nat → Int32) × (Nat → Nat → Int64) × (Nat → Int64)) => True) (fun u : (Nat → Int32) × (Nat → Nat) × (Nat → Nat → Int32) × (Nat → Nat → Int64) × (Nat → Int64) => [((o 8), .inr (8, [.ref (o 3), .ref (o 4), .ref (o 6), .ref (o 74), .ref (o 75), .ref (o 76)])), ((o 74), .inl (k 0, 3, .inl f74)), ((o 76), .inl (k 3, 3, .inl f76)), ((o 6), .inr (1, [.ref (o 3), .ref (o 4), .int (u.1 0), .int (u.1 1), .int (u.1 2), .int (u.1 3), .int (u.1 4), .ref (o 73)])), ((o 73), .inl (k 0, 17, .inl (u.2.2.1 0))), ((o 4), .inr (3, [.ref (o 69), .ref (o 70), .ref (o 71)])), ((o 69), .inl (k 0, 17, .inl f69)), ((o 70), .inl (k 0, 17, .inl f70)), ((o 71), .inl (k 0, 17, .inl f71)), ((o 3), .inr (2, [.int glines, .int (nI ghours), .int glaw, .int godds, .int (nI grows), .int (nI gheads), .int (nI gsayings), .int (nI gslugs), .int (nI gacts), .ref (o 26), .ref (o 27), .ref (o 28), .ref (o 29), .ref (o 30), .ref (o 31), .ref (o 32), .ref (o 33), .ref (o 34), .ref (o 35)])), ((o 26), .inl (k 0, 12, .inl f26)), ((o 30), .inl (k 0, 12, .inl f30)), ((o 31), .inl (k 0, 12, .inl f31))])) := by
  refine MU.of (by decide) (Nat.le_of_ble_eq_true rfl) ?_
  intro p e s m below meth c ls A args Q S hr hlk hnm hQ hK hP hD hZ hA hS hl
  have hx := S.1
  have hb := S.2.1
  have hl : lv_has ls 6 [(0, .ref (o 8)), (1, .int p0)] := hl
  refine lv_iconst (v := (-1)) hx hb dX8_loudest_0 (by decide) ?_
  refine lv_istore_n (lv' := [(2, .int (-1)), (0, .ref (o 8)), (1, .int p0)]) hx hb dX8_loudest_1 rfl hl (by decide) rfl (fun ls hl => ?_)
  refine lv_iconst (v := (-1)) hx hb dX8_loudest_2 (by decide) ?_
  refine lv_istore_n (lv' := [(3, .int (-1)), (2, .int (-1)), (0, .ref (o 8)), (1, .int p0)]) hx hb dX8_loudest_3 rfl hl (by decide) rfl (fun ls hl => ?_)
  refine lv_iconst (v := 0) hx hb dX8_loudest_4 (by decide) ?_
  refine lv_istore (lv' := [(4, .int 0), (3, .int (-1)), (2, .int (-1)), (0, .ref (o 8)), (1, .int p0)]) hx hb dX8_loudest_5 hl (by decide) rfl (fun ls hl => ?_)
  have lp_37 : ∀ (nn j_28 : Nat) (x_29 : Int32) (x_30 : Int32) (x_31 : Int32) (x_32 : Int32) (x_33 : Int32) (g_34 : Nat → Int32) (x_35 : Int32) (x_36 : Int32) (H : Heap) (locs : List Loc) (ls : Array Slot), j_28 ≤ gheads → gheads - j_28 < nn → va_P D vwCl [((o 8), .inr (8, [.ref (o 3), .ref (o 4), .ref (o 6), .ref (o 74), .ref (o 75), .ref (o 76)])), ((o 74), .inl (k 0, 3, .inl f74)), ((o 76), .inl (k 3, 3, .inl f76)), ((o 6), .inr (1, [.ref (o 3), .ref (o 4), .int x_29, .int x_30, .int x_31, .int x_32, .int x_33, .ref (o 73)])), ((o 73), .inl (k 0, 17, .inl g_34)), ((o 4), .inr (3, [.ref (o 69), .ref (o 70), .ref (o 71)])), ((o 69), .inl (k 0, 17, .inl f69)), ((o 70), .inl (k 0, 17, .inl f70)), ((o 71), .inl (k 0, 17, .inl f71)), ((o 3), .inr (2, [.int glines, .int (nI ghours), .int glaw, .int godds, .int (nI grows), .int (nI gheads), .int (nI gsayings), .int (nI gslugs), .int (nI gacts), .ref (o 26), .ref (o 27), .ref (o 28), .ref (o 29), .ref (o 30), .ref (o 31), .ref (o 32), .ref (o 33), .ref (o 34), .ref (o 35)])), ((o 26), .inl (k 0, 12, .inl f26)), ((o 30), .inl (k 0, 12, .inl f30)), ((o 31), .inl (k 0, 12, .inl f31))] H → va_D A [((o 8), .inr (8, [.ref (o 3), .ref (o 4), .ref (o 6), .ref (o 74), .ref (o 75), .ref (o 76)])), ((o 74), .inl (k 0, 3, .inl f74)), ((o 76), .inl (k 3, 3, .inl f76)), ((o 6), .inr (1, [.ref (o 3), .ref (o 4), .int x_29, .int x_30, .int x_31, .int x_32, .int x_33, .ref (o 73)])), ((o 73), .inl (k 0, 17, .inl g_34)), ((o 4), .inr (3, [.ref (o 69), .ref (o 70), .ref (o 71)])), ((o 69), .inl (k 0, 17, .inl f69)), ((o 70), .inl (k 0, 17, .inl f70)), ((o 71), .inl (k 0, 17, .inl f71)), ((o 3), .inr (2, [.int glines, .int (nI ghours), .int glaw, .int godds, .int (nI grows), .int (nI gheads), .int (nI gsayings), .int (nI gslugs), .int (nI gacts), .ref (o 26), .ref (o 27), .ref (o 28), .ref (o 29), .ref (o 30), .ref (o 31), .ref (o 32), .ref (o 33), .ref (o 34), .ref (o 35)])), ((o 26), .inl (k 0, 12, .inl f26)), ((o 30), .inl (k 0, 12, .inl f30)), ((o 31), .inl (k 0, 12, .inl f31))] → va_S A s.heap H locs → lv_has ls 6 [(4, .int (nI j_28)), (3, .int x_35), (2, .int x_36), (0, .ref (o 8)), (1, .int p0)] → W p l e (Rm 5 0 0) s m args below meth c H locs 0 0 Q (F0 m 7 ls []) := by
    intro nn
    induction nn with
    | zero => intro j_28 x_29 x_30 x_31 x_32 x_33 g_34 x_35 x_36 H locs ls hjj_28 hnj_28; exact absurd hnj_28 (by omega)
    | succ nn ihj_28 =>
      intro j_28 x_29 x_30 x_31 x_32 x_33 g_34 x_35 x_36 H locs ls hjj_28 hnj_28 hP hD hS hl
      refine lv_iload hx hb dX8_loudest_7 (lv_at hl 0 rfl) ?_
      refine lv_aload_n hx hb dX8_loudest_9 rfl (lv_at hl 3 rfl) ?_
      refine x_get S hK hP 0 rfl cfX8 0 lkX8_24 (by decide) rfl dX8_loudest_10 ?_
      refine x_get S hK hP 9 rfl cfX2 5 lkX8_71 (by decide) rfl dX8_loudest_13 ?_
      refine lv_icmp_ge (tgt := 51) hx hb dX8_loudest_16 (by decide) (fun c_38 => ?_) (fun c_38 => ?_)
      · skip
        have c_38 : gheads ≤ j_28 := (ni_le rfl rfl (by omega) (by omega)).mp c_38
        refine lv_iload_n hx hb dX8_loudest_51 rfl (lv_at hl 2 rfl) ?_
        exact x_reti S hr hlk hQ hS ((fun i => ([x_29, x_30, x_31, x_32, x_33] : List (Int32)).getD i 0), (fun i => ([] : List (Nat)).getD i 0), (fun i => ([g_34] : List (Nat → Int32)).getD i (fun _ => 0)), (fun i => ([] : List (Nat → Int64)).getD i (fun _ => 0)), (fun i => ([] : List (Int64)).getD i 0)) trivial (x_B hP hD) dX8_loudest_52
      · skip
        have c_38 : ¬ gheads ≤ j_28 := fun q => c_38 ((ni_le rfl rfl (by omega) (by omega)).mpr q)
        refine lv_aload_n hx hb dX8_loudest_19 rfl (lv_at hl 3 rfl) ?_
        refine lv_iload_n hx hb dX8_loudest_20 rfl (lv_at hl 4 rfl) ?_
        refine lv_iconst (v := 1) hx hb dX8_loudest_21 (by decide) ?_
        refine lv_iload hx hb dX8_loudest_22 (lv_at hl 0 rfl) ?_
        refine lv_ishl hx hb dX8_loudest_24 ?_
        refine lv_topi (fun v_39 ev_39 => ?_)
        refine x_muVi (wr := []) (As := [.int p0, .int v_39]) S hK hP hD hZ hS hA hl mwX8_holdersTold lkX8_78 (ctX8_holdersTold l D k z o f74 f76 x_29 x_30 x_31 x_32 x_33 g_34 f69 f70 f71 glines ghours glaw godds grows gheads gsayings gslugs gacts f26 f30 f31 p0 v_39 (by omega) (by omega) (by omega) (by omega) (by omega) (by omega)) [0, 1, 2, 3, 4, 5, 6, 7, 8, 9, 10, 11, 12] [] rfl rfl (by decide) (by decide) (by decide) rfl rfl rfl rfl rfl ⟨Nat.le_of_ble_eq_true rfl, Nat.le_of_ble_eq_true rfl, Nat.le_of_ble_eq_true rfl⟩ dX8_loudest_25 ⟨Nat.le_of_ble_eq_true rfl, Nat.le_of_ble_eq_true rfl⟩ (fun r_40 u_41 H locs hr_40 hP hD hS => ?_)
        have hP : va_P D vwCl [((o 8), .inr (8, [.ref (o 3), .ref (o 4), .ref (o 6), .ref (o 74), .ref (o 75), .ref (o 76)])), ((o 74), .inl (k 0, 3, .inl f74)), ((o 76), .inl (k 3, 3, .inl f76)), ((o 6), .inr (1, [.ref (o 3), .ref (o 4), .int (u_41.1 0), .int (u_41.1 1), .int (u_41.1 2), .int (u_41.1 3), .int (u_41.1 4), .ref (o 73)])), ((o 73), .inl (k 0, 17, .inl (u_41.2.2.1 0))), ((o 4), .inr (3, [.ref (o 69), .ref (o 70), .ref (o 71)])), ((o 69), .inl (k 0, 17, .inl f69)), ((o 70), .inl (k 0, 17, .inl f70)), ((o 71), .inl (k 0, 17, .inl f71)), ((o 3), .inr (2, [.int glines, .int (nI ghours), .int glaw, .int godds, .int (nI grows), .int (nI gheads), .int (nI gsayings), .int (nI gslugs), .int (nI gacts), .ref (o 26), .ref (o 27), .ref (o 28), .ref (o 29), .ref (o 30), .ref (o 31), .ref (o 32), .ref (o 33), .ref (o 34), .ref (o 35)])), ((o 26), .inl (k 0, 12, .inl f26)), ((o 30), .inl (k 0, 12, .inl f30)), ((o 31), .inl (k 0, 12, .inl f31))] H := hP.sub [0, 1, 2, 3, 4, 5, 6, 7, 8, 9, 10, 11, 12] rfl
        have hD : va_D A [((o 8), .inr (8, [.ref (o 3), .ref (o 4), .ref (o 6), .ref (o 74), .ref (o 75), .ref (o 76)])), ((o 74), .inl (k 0, 3, .inl f74)), ((o 76), .inl (k 3, 3, .inl f76)), ((o 6), .inr (1, [.ref (o 3), .ref (o 4), .int (u_41.1 0), .int (u_41.1 1), .int (u_41.1 2), .int (u_41.1 3), .int (u_41.1 4), .ref (o 73)])), ((o 73), .inl (k 0, 17, .inl (u_41.2.2.1 0))), ((o 4), .inr (3, [.ref (o 69), .ref (o 70), .ref (o 71)])), ((o 69), .inl (k 0, 17, .inl f69)), ((o 70), .inl (k 0, 17, .inl f70)), ((o 71), .inl (k 0, 17, .inl f71)), ((o 3), .inr (2, [.int glines, .int (nI ghours), .int glaw, .int godds, .int (nI grows), .int (nI gheads), .int (nI gsayings), .int (nI gslugs), .int (nI gacts), .ref (o 26), .ref (o 27), .ref (o 28), .ref (o 29), .ref (o 30), .ref (o 31), .ref (o 32), .ref (o 33), .ref (o 34), .ref (o 35)])), ((o 26), .inl (k 0, 12, .inl f26)), ((o 30), .inl (k 0, 12, .inl f30)), ((o 31), .inl (k 0, 12, .inl f31))] := hD.sub [0, 1, 2, 3, 4, 5, 6, 7, 8, 9, 10, 11, 12] (by decide) rfl
        refine x_roSi (As := [.int r_40]) S hK hP hD hZ (fun _ h => h) hA hS hA hl mwJ6_bitCount_0f7a4 lkX8_81 (ctJ6_bitCount_0f7a4 l D k z r_40 ) [] rfl (by decide) rfl rfl ⟨Nat.le_of_ble_eq_true rfl, Nat.le_of_ble_eq_true rfl, Nat.le_of_ble_eq_true rfl⟩ dX8_loudest_28 ⟨Nat.le_of_ble_eq_true rfl, Nat.le_of_ble_eq_true rfl⟩ (fun r_42 H locs hr_42 hP hS => ?_)
        obtain ⟨n_44, rfl, hn_44⟩ := hr_42
        refine lv_istore (lv' := [(5, .int (nI n_44)), (4, .int (nI j_28)), (3, .int x_35), (2, .int x_36), (0, .ref (o 8)), (1, .int p0)]) hx hb dX8_loudest_31 hl (by decide) rfl (fun ls hl => ?_)
        refine lv_iload hx hb dX8_loudest_33 (lv_at hl 0 rfl) ?_
        refine lv_iload_n hx hb dX8_loudest_35 rfl (lv_at hl 2 rfl) ?_
        refine lv_icmp_le (tgt := 45) hx hb dX8_loudest_36 (by decide) (fun c_45 => ?_) (fun c_45 => ?_)
        · skip
          refine lv_iinc (v := (nI (j_28 + 1))) (lv' := [(4, .int (nI (j_28 + 1))), (5, .int (nI n_44)), (3, .int x_35), (2, .int x_36), (0, .ref (o 8)), (1, .int p0)]) hx hb dX8_loudest_45 hl (k := 1) rfl (ni_inc _) (by decide) rfl (fun ls hl => ?_)
          refine lv_goto (tgt := 7) hx hb dX8_loudest_48 (by decide) ?_
          exact ihj_28 (j_28 + 1) (u_41.1 0) (u_41.1 1) (u_41.1 2) (u_41.1 3) (u_41.1 4) (u_41.2.2.1 0) x_35 x_36 _ _ _ (by omega) (by omega) hP hD hS (lv_sub hl [0, 2, 3, 4, 5] rfl)
        · skip
          refine lv_iload hx hb dX8_loudest_39 (lv_at hl 0 rfl) ?_
          refine lv_istore_n (lv' := [(3, .int (nI n_44)), (5, .int (nI n_44)), (4, .int (nI j_28)), (2, .int x_36), (0, .ref (o 8)), (1, .int p0)]) hx hb dX8_loudest_41 rfl hl (by decide) rfl (fun ls hl => ?_)
          refine lv_iload hx hb dX8_loudest_42 (lv_at hl 2 rfl) ?_
          refine lv_istore_n (lv' := [(2, .int (nI j_28)), (3, .int (nI n_44)), (5, .int (nI n_44)), (4, .int (nI j_28)), (0, .ref (o 8)), (1, .int p0)]) hx hb dX8_loudest_44 rfl hl (by decide) rfl (fun ls hl => ?_)
          refine lv_iinc (v := (nI (j_28 + 1))) (lv' := [(4, .int (nI (j_28 + 1))), (2, .int (nI j_28)), (3, .int (nI n_44)), (5, .int (nI n_44)), (0, .ref (o 8)), (1, .int p0)]) hx hb dX8_loudest_45 hl (k := 3) rfl (ni_inc _) (by decide) rfl (fun ls hl => ?_)
          refine lv_goto (tgt := 7) hx hb dX8_loudest_48 (by decide) ?_
          exact ihj_28 (j_28 + 1) (u_41.1 0) (u_41.1 1) (u_41.1 2) (u_41.1 3) (u_41.1 4) (u_41.2.2.1 0) (nI n_44) (nI j_28) _ _ _ (by omega) (by omega) hP hD hS (lv_sub hl [0, 2, 1, 4, 5] rfl)
  exact lp_37 (gheads + 1) 0 tlawNow tharder ttold treply twet f73 (-1) (-1) _ _ _ (by omega) (by omega) hP hD hS (lv_sub hl [0, 1, 2, 3, 4] rfl)

set_option maxHeartbeats 4000000 in
set_option maxRecDepth 100000 in
theorem ctX8_firmHeads (l : Launch) (D : va_G) (k : Nat → ClassId) (z : Nat → Nat) (o : Nat → Nat) (f74 : Nat → Int32) (f76 : Nat → Int32) (tlawNow : Int32) (tharder : Int32) (ttold : Int32) (treply : Int32) (twet : Int32) (f73 : Nat → Int32) (f69 : Nat → Int32) (f70 : Nat → Int32) (f71 : Nat → Int32) (glines : Int32) (ghours : Nat) (glaw : Int32) (godds : Int32) (grows : Nat) (gheads : Nat) (gsayings : Nat) (gslugs : Nat) (gacts : Nat) (f26 : Nat → Int32) (f30 : Nat → Int32) (f31 : Nat → Int32) (p0 : Int32) (hghours : ghours ≤ 16) (hgrows : grows ≤ 4) (hgheads : gheads ≤ 12) (hgsayings : gsayings ≤ 8) (hgslugs : gslugs ≤ 4) (hgacts : gacts ≤ 30) : MU l yX8_firmHeads cX8_firmHeads 5 (some .int) 5 D k z [.ref (o 8), .int p0] [((o 8), .inr (8, [.ref (o 3), .ref (o 4), .ref (o 6), .ref (o 74), .ref (o 75), .ref (o 76)])), ((o 74), .inl (k 0, 3, .inl f74)), ((o 76), .inl (k 3, 3, .inl f76)), ((o 6), .inr (1, [.ref (o 3), .ref (o 4), .int tlawNow, .int tharder, .int ttold, .int treply, .int twet, .ref (o 73)])), ((o 73), .inl (k 0, 17, .inl f73)), ((o 4), .inr (3, [.ref (o 69), .ref (o 70), .ref (o 71)])), ((o 69), .inl (k 0, 17, .inl f69)), ((o 70), .inl (k 0, 17, .inl f70)), ((o 71), .inl (k 0, 17, .inl f71)), ((o 3), .inr (2, [.int glines, .int (nI ghours), .int glaw, .int godds, .int (nI grows), .int (nI gheads), .int (nI gsayings), .int (nI gslugs), .int (nI gacts), .ref (o 26), .ref (o 27), .ref (o 28), .ref (o 29), .ref (o 30), .ref (o 31), .ref (o 32), .ref (o 33), .ref (o 34), .ref (o 35)])), ((o 26), .inl (k 0, 12, .inl f26)), ((o 30), .inl (k 0, 12, .inl f30)), ((o 31), .inl (k 0, 12, .inl f31))] 0 0 (Ui D (fun (r : Int32) (u : (Nat → Int32) × (Nat → Nat) × (Nat → Nat → Int32) × (Nat → Nat → Int64) × (Nat → Int64)) => True) (fun u : (Nat → Int32) × (Nat → Nat) × (Nat → Nat → Int32) × (Nat → Nat → Int64) × (Nat → Int64) => [((o 8), .inr (8, [.ref (o 3), .ref (o 4), .ref (o 6), .ref (o 74), .ref (o 75), .ref (o 76)])), ((o 74), .inl (k 0, 3, .inl f74)), ((o 76), .inl (k 3, 3, .inl f76)), ((o 6), .inr (1, [.ref (o 3), .ref (o 4), .int (u.1 0), .int (u.1 1), .int (u.1 2), .int (u.1 3), .int (u.1 4), .ref (o 73)])), ((o 73), .inl (k 0, 17, .inl (u.2.2.1 0))), ((o 4), .inr (3, [.ref (o 69), .ref (o 70), .ref (o 71)])), ((o 69), .inl (k 0, 17, .inl f69)), ((o 70), .inl (k 0, 17, .inl f70)), ((o 71), .inl (k 0, 17, .inl f71)), ((o 3), .inr (2, [.int glines, .int (nI ghours), .int glaw, .int godds, .int (nI grows), .int (nI gheads), .int (nI gsayings), .int (nI gslugs), .int (nI gacts), .ref (o 26), .ref (o 27), .ref (o 28), .ref (o 29), .ref (o 30), .ref (o 31), .ref (o 32), .ref (o 33), .ref (o 34), .ref (o 35)])), ((o 26), .inl (k 0, 12, .inl f26)), ((o 30), .inl (k 0, 12, .inl f30)), ((o 31), .inl (k 0, 12, .inl f31))])) := by
  refine MU.of (by decide) (Nat.le_of_ble_eq_true rfl) ?_
  intro p e s m below meth c ls A args Q S hr hlk hnm hQ hK hP hD hZ hA hS hl
  have hx := S.1
  have hb := S.2.1
  have hl : lv_has ls 5 [(0, .ref (o 8)), (1, .int p0)] := hl
  refine lv_iconst (v := 0) hx hb dX8_firmHeads_0 (by decide) ?_
  refine lv_istore_n (lv' := [(2, .int 0), (0, .ref (o 8)), (1, .int p0)]) hx hb dX8_firmHeads_1 rfl hl (by decide) rfl (fun ls hl => ?_)
  refine lv_iconst (v := 0) hx hb dX8_firmHeads_2 (by decide) ?_
  refine lv_istore_n (lv' := [(3, .int 0), (2, .int 0), (0, .ref (o 8)), (1, .int p0)]) hx hb dX8_firmHeads_3 rfl hl (by decide) rfl (fun ls hl => ?_)
  have lp_41 : ∀ (nn j_33 : Nat) (x_34 : Int32) (x_35 : Int32) (x_36 : Int32) (x_37 : Int32) (x_38 : Int32) (g_39 : Nat → Int32) (x_40 : Int32) (H : Heap) (locs : List Loc) (ls : Array Slot), j_33 ≤ gheads → gheads - j_33 < nn → va_P D vwCl [((o 8), .inr (8, [.ref (o 3), .ref (o 4), .ref (o 6), .ref (o 74), .ref (o 75), .ref (o 76)])), ((o 74), .inl (k 0, 3, .inl f74)), ((o 76), .inl (k 3, 3, .inl f76)), ((o 6), .inr (1, [.ref (o 3), .ref (o 4), .int x_34, .int x_35, .int x_36, .int x_37, .int x_38, .ref (o 73)])), ((o 73), .inl (k 0, 17, .inl g_39)), ((o 4), .inr (3, [.ref (o 69), .ref (o 70), .ref (o 71)])), ((o 69), .inl (k 0, 17, .inl f69)), ((o 70), .inl (k 0, 17, .inl f70)), ((o 71), .inl (k 0, 17, .inl f71)), ((o 3), .inr (2, [.int glines, .int (nI ghours), .int glaw, .int godds, .int (nI grows), .int (nI gheads), .int (nI gsayings), .int (nI gslugs), .int (nI gacts), .ref (o 26), .ref (o 27), .ref (o 28), .ref (o 29), .ref (o 30), .ref (o 31), .ref (o 32), .ref (o 33), .ref (o 34), .ref (o 35)])), ((o 26), .inl (k 0, 12, .inl f26)), ((o 30), .inl (k 0, 12, .inl f30)), ((o 31), .inl (k 0, 12, .inl f31))] H → va_D A [((o 8), .inr (8, [.ref (o 3), .ref (o 4), .ref (o 6), .ref (o 74), .ref (o 75), .ref (o 76)])), ((o 74), .inl (k 0, 3, .inl f74)), ((o 76), .inl (k 3, 3, .inl f76)), ((o 6), .inr (1, [.ref (o 3), .ref (o 4), .int x_34, .int x_35, .int x_36, .int x_37, .int x_38, .ref (o 73)])), ((o 73), .inl (k 0, 17, .inl g_39)), ((o 4), .inr (3, [.ref (o 69), .ref (o 70), .ref (o 71)])), ((o 69), .inl (k 0, 17, .inl f69)), ((o 70), .inl (k 0, 17, .inl f70)), ((o 71), .inl (k 0, 17, .inl f71)), ((o 3), .inr (2, [.int glines, .int (nI ghours), .int glaw, .int godds, .int (nI grows), .int (nI gheads), .int (nI gsayings), .int (nI gslugs), .int (nI gacts), .ref (o 26), .ref (o 27), .ref (o 28), .ref (o 29), .ref (o 30), .ref (o 31), .ref (o 32), .ref (o 33), .ref (o 34), .ref (o 35)])), ((o 26), .inl (k 0, 12, .inl f26)), ((o 30), .inl (k 0, 12, .inl f30)), ((o 31), .inl (k 0, 12, .inl f31))] → va_S A s.heap H locs → lv_has ls 5 [(3, .int (nI j_33)), (2, .int x_40), (0, .ref (o 8)), (1, .int p0)] → W p l e (Rm 5 0 0) s m args below meth c H locs 0 0 Q (F0 m 4 ls []) := by
    intro nn
    induction nn with
    | zero => intro j_33 x_34 x_35 x_36 x_37 x_38 g_39 x_40 H locs ls hjj_33 hnj_33; exact absurd hnj_33 (by omega)
    | succ nn ihj_33 =>
      intro j_33 x_34 x_35 x_36 x_37 x_38 g_39 x_40 H locs ls hjj_33 hnj_33 hP hD hS hl
      refine lv_iload_n hx hb dX8_firmHeads_4 rfl (lv_at hl 0 rfl) ?_
      refine lv_aload_n hx hb dX8_firmHeads_5 rfl (lv_at hl 2 rfl) ?_
      refine x_get S hK hP 0 rfl cfX8 0 lkX8_24 (by decide) rfl dX8_firmHeads_6 ?_
      refine x_get S hK hP 9 rfl cfX2 5 lkX8_71 (by decide) rfl dX8_firmHeads_9 ?_
      refine lv_icmp_ge (tgt := 54) hx hb dX8_firmHeads_12 (by decide) (fun c_42 => ?_) (fun c_42 => ?_)
      · skip
        have c_42 : gheads ≤ j_33 := (ni_le rfl rfl (by omega) (by omega)).mp c_42
        refine lv_iload_n hx hb dX8_firmHeads_54 rfl (lv_at hl 1 rfl) ?_
        exact x_reti S hr hlk hQ hS ((fun i => ([x_34, x_35, x_36, x_37, x_38] : List (Int32)).getD i 0), (fun i => ([] : List (Nat)).getD i 0), (fun i => ([g_39] : List (Nat → Int32)).getD i (fun _ => 0)), (fun i => ([] : List (Nat → Int64)).getD i (fun _ => 0)), (fun i => ([] : List (Int64)).getD i 0)) trivial (x_B hP hD) dX8_firmHeads_55
      · skip
        have c_42 : ¬ gheads ≤ j_33 := fun q => c_42 ((ni_le rfl rfl (by omega) (by omega)).mpr q)
        refine lv_iconst (v := 1) hx hb dX8_firmHeads_15 (by decide) ?_
        refine lv_iload_n hx hb dX8_firmHeads_16 rfl (lv_at hl 0 rfl) ?_
        refine lv_ishl hx hb dX8_firmHeads_17 ?_
        refine lv_topi (fun v_43 ev_43 => ?_)
        refine lv_istore (lv' := [(4, .int v_43), (3, .int (nI j_33)), (2, .int x_40), (0, .ref (o 8)), (1, .int p0)]) hx hb dX8_firmHeads_18 hl (by decide) rfl (fun ls hl => ?_)
        refine lv_aload_n hx hb dX8_firmHeads_20 rfl (lv_at hl 3 rfl) ?_
        refine lv_iload_n hx hb dX8_firmHeads_21 rfl (lv_at hl 4 rfl) ?_
        refine lv_aload_n hx hb dX8_firmHeads_22 rfl (lv_at hl 3 rfl) ?_
        refine x_get S hK hP 0 rfl cfX8 0 lkX8_24 (by decide) rfl dX8_firmHeads_23 ?_
        refine x_roVi (As := []) S hK hP hD hZ (fun _ h => h) hA hS hA hl mwX2_everyone lkX8_53 (ctX2_everyone l D k z o glines ghours glaw godds grows gheads gsayings gslugs gacts (by omega) (by omega) (by omega) (by omega) (by omega) (by omega)) [9] rfl (by decide) rfl rfl rfl rfl rfl ⟨Nat.le_of_ble_eq_true rfl, Nat.le_of_ble_eq_true rfl, Nat.le_of_ble_eq_true rfl⟩ dX8_firmHeads_26 ⟨Nat.le_of_ble_eq_true rfl, Nat.le_of_ble_eq_true rfl⟩ (fun r_44 H locs hr_44 hP hS => ?_)
        refine lv_iload hx hb dX8_firmHeads_29 (lv_at hl 0 rfl) ?_
        refine lv_iconst (v := (-1)) hx hb dX8_firmHeads_31 (by decide) ?_
        refine lv_ixor hx hb dX8_firmHeads_32 ?_
        refine lv_topi (fun v_46 ev_46 => ?_)
        refine lv_iand hx hb dX8_firmHeads_33 ?_
        refine lv_topi (fun v_47 ev_47 => ?_)
        refine x_muVi (wr := []) (As := [.int p0, .int v_47]) S hK hP hD hZ hS hA hl mwX8_holdersTold lkX8_78 (ctX8_holdersTold l D k z o f74 f76 x_34 x_35 x_36 x_37 x_38 g_39 f69 f70 f71 glines ghours glaw godds grows gheads gsayings gslugs gacts f26 f30 f31 p0 v_47 (by omega) (by omega) (by omega) (by omega) (by omega) (by omega)) [0, 1, 2, 3, 4, 5, 6, 7, 8, 9, 10, 11, 12] [] rfl rfl (by decide) (by decide) (by decide) rfl rfl rfl rfl rfl ⟨Nat.le_of_ble_eq_true rfl, Nat.le_of_ble_eq_true rfl, Nat.le_of_ble_eq_true rfl⟩ dX8_firmHeads_34 ⟨Nat.le_of_ble_eq_true rfl, Nat.le_of_ble_eq_true rfl⟩ (fun r_48 u_49 H locs hr_48 hP hD hS => ?_)
        have hP : va_P D vwCl [((o 8), .inr (8, [.ref (o 3), .ref (o 4), .ref (o 6), .ref (o 74), .ref (o 75), .ref (o 76)])), ((o 74), .inl (k 0, 3, .inl f74)), ((o 76), .inl (k 3, 3, .inl f76)), ((o 6), .inr (1, [.ref (o 3), .ref (o 4), .int (u_49.1 0), .int (u_49.1 1), .int (u_49.1 2), .int (u_49.1 3), .int (u_49.1 4), .ref (o 73)])), ((o 73), .inl (k 0, 17, .inl (u_49.2.2.1 0))), ((o 4), .inr (3, [.ref (o 69), .ref (o 70), .ref (o 71)])), ((o 69), .inl (k 0, 17, .inl f69)), ((o 70), .inl (k 0, 17, .inl f70)), ((o 71), .inl (k 0, 17, .inl f71)), ((o 3), .inr (2, [.int glines, .int (nI ghours), .int glaw, .int godds, .int (nI grows), .int (nI gheads), .int (nI gsayings), .int (nI gslugs), .int (nI gacts), .ref (o 26), .ref (o 27), .ref (o 28), .ref (o 29), .ref (o 30), .ref (o 31), .ref (o 32), .ref (o 33), .ref (o 34), .ref (o 35)])), ((o 26), .inl (k 0, 12, .inl f26)), ((o 30), .inl (k 0, 12, .inl f30)), ((o 31), .inl (k 0, 12, .inl f31))] H := hP.sub [0, 1, 2, 3, 4, 5, 6, 7, 8, 9, 10, 11, 12] rfl
        have hD : va_D A [((o 8), .inr (8, [.ref (o 3), .ref (o 4), .ref (o 6), .ref (o 74), .ref (o 75), .ref (o 76)])), ((o 74), .inl (k 0, 3, .inl f74)), ((o 76), .inl (k 3, 3, .inl f76)), ((o 6), .inr (1, [.ref (o 3), .ref (o 4), .int (u_49.1 0), .int (u_49.1 1), .int (u_49.1 2), .int (u_49.1 3), .int (u_49.1 4), .ref (o 73)])), ((o 73), .inl (k 0, 17, .inl (u_49.2.2.1 0))), ((o 4), .inr (3, [.ref (o 69), .ref (o 70), .ref (o 71)])), ((o 69), .inl (k 0, 17, .inl f69)), ((o 70), .inl (k 0, 17, .inl f70)), ((o 71), .inl (k 0, 17, .inl f71)), ((o 3), .inr (2, [.int glines, .int (nI ghours), .int glaw, .int godds, .int (nI grows), .int (nI gheads), .int (nI gsayings), .int (nI gslugs), .int (nI gacts), .ref (o 26), .ref (o 27), .ref (o 28), .ref (o 29), .ref (o 30), .ref (o 31), .ref (o 32), .ref (o 33), .ref (o 34), .ref (o 35)])), ((o 26), .inl (k 0, 12, .inl f26)), ((o 30), .inl (k 0, 12, .inl f30)), ((o 31), .inl (k 0, 12, .inl f31))] := hD.sub [0, 1, 2, 3, 4, 5, 6, 7, 8, 9, 10, 11, 12] (by decide) rfl
        refine lv_iload hx hb dX8_firmHeads_37 (lv_at hl 0 rfl) ?_
        refine lv_iand hx hb dX8_firmHeads_39 ?_
        refine lv_topi (fun v_50 ev_50 => ?_)
        refine lv_if_ne (tgt := 48) hx hb dX8_firmHeads_40 (by decide) (fun c_51 => ?_) (fun c_51 => ?_)
        · skip
          refine lv_iinc (v := (nI (j_33 + 1))) (lv' := [(3, .int (nI (j_33 + 1))), (4, .int v_43), (2, .int x_40), (0, .ref (o 8)), (1, .int p0)]) hx hb dX8_firmHeads_48 hl (k := 1) rfl (ni_inc _) (by decide) rfl (fun ls hl => ?_)
          refine lv_goto (tgt := 4) hx hb dX8_firmHeads_51 (by decide) ?_
          exact ihj_33 (j_33 + 1) (u_49.1 0) (u_49.1 1) (u_49.1 2) (u_49.1 3) (u_49.1 4) (u_49.2.2.1 0) x_40 _ _ _ (by omega) (by omega) hP hD hS (lv_sub hl [0, 2, 3, 4] rfl)
        · skip
          refine lv_iload_n hx hb dX8_firmHeads_43 rfl (lv_at hl 2 rfl) ?_
          refine lv_iload hx hb dX8_firmHeads_44 (lv_at hl 0 rfl) ?_
          refine lv_ior hx hb dX8_firmHeads_46 ?_
          refine lv_topi (fun v_52 ev_52 => ?_)
          refine lv_istore_n (lv' := [(2, .int v_52), (4, .int v_43), (3, .int (nI j_33)), (0, .ref (o 8)), (1, .int p0)]) hx hb dX8_firmHeads_47 rfl hl (by decide) rfl (fun ls hl => ?_)
          refine lv_iinc (v := (nI (j_33 + 1))) (lv' := [(3, .int (nI (j_33 + 1))), (2, .int v_52), (4, .int v_43), (0, .ref (o 8)), (1, .int p0)]) hx hb dX8_firmHeads_48 hl (k := 2) rfl (ni_inc _) (by decide) rfl (fun ls hl => ?_)
          refine lv_goto (tgt := 4) hx hb dX8_firmHeads_51 (by decide) ?_
          exact ihj_33 (j_33 + 1) (u_49.1 0) (u_49.1 1) (u_49.1 2) (u_49.1 3) (u_49.1 4) (u_49.2.2.1 0) v_52 _ _ _ (by omega) (by omega) hP hD hS (lv_sub hl [0, 1, 3, 4] rfl)
  exact lp_41 (gheads + 1) 0 tlawNow tharder ttold treply twet f73 0 _ _ _ (by omega) (by omega) hP hD hS (lv_sub hl [0, 1, 2, 3] rfl)

