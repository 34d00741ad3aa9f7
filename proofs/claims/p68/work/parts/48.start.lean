set_option maxHeartbeats 8000000 in
set_option maxRecDepth 100000 in
theorem law_loop {p : Program} {l : Launch} {e : Env} {s : State} {m : MethodId} {below : List Frame} {meth : Method} {c : Code} {D : va_G} {k : Nat → ClassId} {z : Nat → Nat} {b L : Nat} {xs : Nat → Int32} (hL : L ≤ 3072) (C0 : lw_At p s m meth c b L xs) (hK : KK D k s) (hZ : SKp z (fun q : Nat => s.heap.size ≤ q) s) : ∀ nn, LPw p l e s m below meth c D k b L nn := by
  have C1 := C0
  obtain ⟨hx, hb, hr, hml, hown, hts, hX, hbl, hlocks, hgv⟩ := C0
  have S : CallFix p m c cL_law 4 s #[Value.ref b] TB RL := ⟨hx, hb, hml, hown, tb_of hts⟩
  have hA : ∀ q : Nat, s.heap.size ≤ q → (fun q : Nat => s.heap.size ≤ q) q := fun _ h => h
  have hbA : ¬ (fun q : Nat => s.heap.size ≤ q) b := Nat.not_le.mpr hbl
  intro nn
  induction nn with
  | zero => intro i o rb rn rh n gi gn gf gl gj H locs ls h1 h2; exact absurd h2 (by omega)
  | succ nn ih =>
    intro i o rb rn rh n gi gn gf gl gj H locs ls hi hin hok hP hD hS hl
    refine lv_iload_n hx hb dL_law_18 rfl (lv_at hl 0 rfl) ?_
    refine lv_aload_n hx hb dL_law_19 rfl (lv_at hl 3 rfl) ?_
    refine va_slen hx hb hX hbl hbA hS dL_law_20 ?_
    refine x_is (nI L) rfl ?_
    refine lv_bipush (v := 6) hx hb dL_law_21 (by decide) ?_
    refine lv_isub hx hb dL_law_23 ?_
    refine lv_topi (fun v_1 ev_1 => ?_)
    refine lv_icmp_gt (tgt := 2331) hx hb dL_law_24 (by decide) (fun c_2 => ?_) (fun c_2 => ?_)
    · skip
      refine lv_iconst (v := 1) hx hb dL_law_2331 (by decide) ?_
      refine va_forget (fun q hq => hS.2.2 q hq) ?_
      refine W.widen (k := 600000) (n := 7302250) (Nat.le_of_ble_eq_true rfl) (Nat.le_of_ble_eq_true rfl) ?_
      exact lw_ret hx hb hr hlocks dL_law_2332
    · skip
      have hi6 := law_le ev_1 c_2 hL hi
      refine lv_aload_n hx hb dL_law_27 rfl (lv_at hl 3 rfl) ?_
      refine lv_iload_n hx hb dL_law_28 rfl (lv_at hl 0 rfl) ?_
      refine va_sld hx hb hX hbl hbA hS (vp_in_nI (by omega) (by omega)) dL_law_29 ?_
      refine x_is (xs i) (cl_at (f := xs) (a := i) rfl (by omega)) ?_
      refine lv_bipush (v := 127) hx hb dL_law_30 (by decide) ?_
      refine lv_iand hx hb dL_law_32 ?_
      refine lv_topi (fun v_3 ev_3 => ?_)
      obtain ⟨j, hj, ej⟩ := pk_andE (xs i) (m := 127) 7 (by decide)
      by_cases h0 : j = 0
      · skip
        refine x_is 0 (by rw [ev_3, ej, h0]; rfl) ?_
        refine lv_tableIn (tgt := 332) hx hb dL_law_33 (by decide) (by decide) rfl (by decide) ?_
        exact law_0 hL C1 hK hZ ih (by omega) (by omega) hok hP hD hS hl
      by_cases h1 : j = 1
      · skip
        refine x_is 1 (by rw [ev_3, ej, h1]; rfl) ?_
        refine lv_tableIn (tgt := 395) hx hb dL_law_33 (by decide) (by decide) rfl (by decide) ?_
        exact law_1 hL C1 hK hZ ih (by omega) (by omega) hok hP hD hS hl
      by_cases h2 : j = 2
      · skip
        refine x_is 2 (by rw [ev_3, ej, h2]; rfl) ?_
        refine lv_tableIn (tgt := 418) hx hb dL_law_33 (by decide) (by decide) rfl (by decide) ?_
        exact law_2 hL C1 hK hZ ih (by omega) (by omega) hok hP hD hS hl
      by_cases h3 : j = 3
      · skip
        refine x_is 3 (by rw [ev_3, ej, h3]; rfl) ?_
        refine lv_tableIn (tgt := 431) hx hb dL_law_33 (by decide) (by decide) rfl (by decide) ?_
        exact law_3 hL C1 hK hZ ih (by omega) (by omega) hok hP hD hS hl
      by_cases h4 : j = 4
      · skip
        refine x_is 4 (by rw [ev_3, ej, h4]; rfl) ?_
        refine lv_tableIn (tgt := 454) hx hb dL_law_33 (by decide) (by decide) rfl (by decide) ?_
        exact law_4 hL C1 hK hZ ih (by omega) (by omega) hok hP hD hS hl
      by_cases h5 : j = 5
      · skip
        refine x_is 5 (by rw [ev_3, ej, h5]; rfl) ?_
        refine lv_tableIn (tgt := 487) hx hb dL_law_33 (by decide) (by decide) rfl (by decide) ?_
        exact law_5 hL C1 hK hZ ih (by omega) (by omega) hok hP hD hS hl
      by_cases h6 : j = 6
      · skip
        refine x_is 6 (by rw [ev_3, ej, h6]; rfl) ?_
        refine lv_tableIn (tgt := 510) hx hb dL_law_33 (by decide) (by decide) rfl (by decide) ?_
        exact law_6 hL C1 hK hZ ih (by omega) (by omega) hok hP hD hS hl
      by_cases h7 : j = 7
      · skip
        refine x_is 7 (by rw [ev_3, ej, h7]; rfl) ?_
        refine lv_tableIn (tgt := 533) hx hb dL_law_33 (by decide) (by decide) rfl (by decide) ?_
        exact law_7 hL C1 hK hZ ih (by omega) (by omega) hok hP hD hS hl
      by_cases h8 : j = 8
      · skip
        refine x_is 8 (by rw [ev_3, ej, h8]; rfl) ?_
        refine lv_tableIn (tgt := 566) hx hb dL_law_33 (by decide) (by decide) rfl (by decide) ?_
        exact law_8 hL C1 hK hZ ih (by omega) (by omega) hok hP hD hS hl
      by_cases h9 : j = 9
      · skip
        refine x_is 9 (by rw [ev_3, ej, h9]; rfl) ?_
        refine lv_tableIn (tgt := 599) hx hb dL_law_33 (by decide) (by decide) rfl (by decide) ?_
        exact law_9 hL C1 hK hZ ih (by omega) (by omega) hok hP hD hS hl
      by_cases h10 : j = 10
      · skip
        refine x_is 10 (by rw [ev_3, ej, h10]; rfl) ?_
        refine lv_tableIn (tgt := 622) hx hb dL_law_33 (by decide) (by decide) rfl (by decide) ?_
        exact law_10 hL C1 hK hZ ih (by omega) (by omega) hok hP hD hS hl
      by_cases h11 : j = 11
      · skip
        refine x_is 11 (by rw [ev_3, ej, h11]; rfl) ?_
        refine lv_tableIn (tgt := 645) hx hb dL_law_33 (by decide) (by decide) rfl (by decide) ?_
        exact law_11 hL C1 hK hZ ih (by omega) (by omega) hok hP hD hS hl
      by_cases h12 : j = 12
      · skip
        refine x_is 12 (by rw [ev_3, ej, h12]; rfl) ?_
        refine lv_tableIn (tgt := 668) hx hb dL_law_33 (by decide) (by decide) rfl (by decide) ?_
        exact law_12 hL C1 hK hZ ih (by omega) (by omega) hok hP hD hS hl
      by_cases h13 : j = 13
      · skip
        refine x_is 13 (by rw [ev_3, ej, h13]; rfl) ?_
        refine lv_tableIn (tgt := 701) hx hb dL_law_33 (by decide) (by decide) rfl (by decide) ?_
        exact law_13 hL C1 hK hZ ih (by omega) (by omega) hok hP hD hS hl
      by_cases h14 : j = 14
      · skip
        refine x_is 14 (by rw [ev_3, ej, h14]; rfl) ?_
        refine lv_tableIn (tgt := 734) hx hb dL_law_33 (by decide) (by decide) rfl (by decide) ?_
        exact law_14 hL C1 hK hZ ih (by omega) (by omega) hok hP hD hS hl
      by_cases h15 : j = 15
      · skip
        refine x_is 15 (by rw [ev_3, ej, h15]; rfl) ?_
        refine lv_tableIn (tgt := 757) hx hb dL_law_33 (by decide) (by decide) rfl (by decide) ?_
        exact law_15 hL C1 hK hZ ih (by omega) (by omega) hok hP hD hS hl
      by_cases h16 : j = 16
      · skip
        refine x_is 16 (by rw [ev_3, ej, h16]; rfl) ?_
        refine lv_tableIn (tgt := 770) hx hb dL_law_33 (by decide) (by decide) rfl (by decide) ?_
        exact law_16 hL C1 hK hZ ih (by omega) (by omega) hok hP hD hS hl
      by_cases h17 : j = 17
      · skip
        refine x_is 17 (by rw [ev_3, ej, h17]; rfl) ?_
        refine lv_tableIn (tgt := 783) hx hb dL_law_33 (by decide) (by decide) rfl (by decide) ?_
        exact law_17 hL C1 hK hZ ih (by omega) (by omega) hok hP hD hS hl
      by_cases h18 : j = 18
      · skip
        refine x_is 18 (by rw [ev_3, ej, h18]; rfl) ?_
        refine lv_tableIn (tgt := 796) hx hb dL_law_33 (by decide) (by decide) rfl (by decide) ?_
        exact law_18 hL C1 hK hZ ih (by omega) (by omega) hok hP hD hS hl
      by_cases h19 : j = 19
      · skip
        refine x_is 19 (by rw [ev_3, ej, h19]; rfl) ?_
        refine lv_tableIn (tgt := 809) hx hb dL_law_33 (by decide) (by decide) rfl (by decide) ?_
        exact law_19 hL C1 hK hZ ih (by omega) (by omega) hok hP hD hS hl
      by_cases h20 : j = 20
      · skip
        refine x_is 20 (by rw [ev_3, ej, h20]; rfl) ?_
        refine lv_tableIn (tgt := 822) hx hb dL_law_33 (by decide) (by decide) rfl (by decide) ?_
        exact law_20 hL C1 hK hZ ih (by omega) (by omega) hok hP hD hS hl
      by_cases h21 : j = 21
      · skip
        refine x_is 21 (by rw [ev_3, ej, h21]; rfl) ?_
        refine lv_tableIn (tgt := 835) hx hb dL_law_33 (by decide) (by decide) rfl (by decide) ?_
        exact law_21 hL C1 hK hZ ih (by omega) (by omega) hok hP hD hS hl
      by_cases h22 : j = 22
      · skip
        refine x_is 22 (by rw [ev_3, ej, h22]; rfl) ?_
        refine lv_tableIn (tgt := 868) hx hb dL_law_33 (by decide) (by decide) rfl (by decide) ?_
        exact law_22 hL C1 hK hZ ih (by omega) (by omega) hok hP hD hS hl
      by_cases h23 : j = 23
      · skip
        refine x_is 23 (by rw [ev_3, ej, h23]; rfl) ?_
        refine lv_tableIn (tgt := 901) hx hb dL_law_33 (by decide) (by decide) rfl (by decide) ?_
        exact law_23 hL C1 hK hZ ih (by omega) (by omega) hok hP hD hS hl
      by_cases h24 : j = 24
      · skip
        refine x_is 24 (by rw [ev_3, ej, h24]; rfl) ?_
        refine lv_tableIn (tgt := 924) hx hb dL_law_33 (by decide) (by decide) rfl (by decide) ?_
        exact law_24 hL C1 hK hZ ih (by omega) (by omega) hok hP hD hS hl
      by_cases h25 : j = 25
      · skip
        refine x_is 25 (by rw [ev_3, ej, h25]; rfl) ?_
        refine lv_tableIn (tgt := 947) hx hb dL_law_33 (by decide) (by decide) rfl (by decide) ?_
        exact law_25 hL C1 hK hZ ih (by omega) (by omega) hok hP hD hS hl
      by_cases h26 : j = 26
      · skip
        refine x_is 26 (by rw [ev_3, ej, h26]; rfl) ?_
        refine lv_tableIn (tgt := 970) hx hb dL_law_33 (by decide) (by decide) rfl (by decide) ?_
        exact law_26 hL C1 hK hZ ih (by omega) (by omega) hok hP hD hS hl
      by_cases h27 : j = 27
      · skip
        refine x_is 27 (by rw [ev_3, ej, h27]; rfl) ?_
        refine lv_tableIn (tgt := 993) hx hb dL_law_33 (by decide) (by decide) rfl (by decide) ?_
        exact law_27 hL C1 hK hZ ih (by omega) (by omega) hok hP hD hS hl
      by_cases h28 : j = 28
      · skip
        refine x_is 28 (by rw [ev_3, ej, h28]; rfl) ?_
        refine lv_tableIn (tgt := 1026) hx hb dL_law_33 (by decide) (by decide) rfl (by decide) ?_
        exact law_28 hL C1 hK hZ ih (by omega) (by omega) hok hP hD hS hl
      by_cases h29 : j = 29
      · skip
        refine x_is 29 (by rw [ev_3, ej, h29]; rfl) ?_
        refine lv_tableIn (tgt := 1059) hx hb dL_law_33 (by decide) (by decide) rfl (by decide) ?_
        exact law_29 hL C1 hK hZ ih (by omega) (by omega) hok hP hD hS hl
      by_cases h30 : j = 30
      · skip
        refine x_is 30 (by rw [ev_3, ej, h30]; rfl) ?_
        refine lv_tableIn (tgt := 1082) hx hb dL_law_33 (by decide) (by decide) rfl (by decide) ?_
        exact law_30 hL C1 hK hZ ih (by omega) (by omega) hok hP hD hS hl
      by_cases h31 : j = 31
      · skip
        refine x_is 31 (by rw [ev_3, ej, h31]; rfl) ?_
        refine lv_tableIn (tgt := 1105) hx hb dL_law_33 (by decide) (by decide) rfl (by decide) ?_
        exact law_31 hL C1 hK hZ ih (by omega) (by omega) hok hP hD hS hl
      by_cases h32 : j = 32
      · skip
        refine x_is 32 (by rw [ev_3, ej, h32]; rfl) ?_
        refine lv_tableIn (tgt := 1128) hx hb dL_law_33 (by decide) (by decide) rfl (by decide) ?_
        exact law_32 hL C1 hK hZ ih (by omega) (by omega) hok hP hD hS hl
      by_cases h33 : j = 33
      · skip
        refine x_is 33 (by rw [ev_3, ej, h33]; rfl) ?_
        refine lv_tableIn (tgt := 1151) hx hb dL_law_33 (by decide) (by decide) rfl (by decide) ?_
        exact law_33 hL C1 hK hZ ih (by omega) (by omega) hok hP hD hS hl
      by_cases h34 : j = 34
      · skip
        refine x_is 34 (by rw [ev_3, ej, h34]; rfl) ?_
        refine lv_tableIn (tgt := 1174) hx hb dL_law_33 (by decide) (by decide) rfl (by decide) ?_
        exact law_34 hL C1 hK hZ ih (by omega) (by omega) hok hP hD hS hl
      by_cases h35 : j = 35
      · skip
        refine x_is 35 (by rw [ev_3, ej, h35]; rfl) ?_
        refine lv_tableIn (tgt := 1197) hx hb dL_law_33 (by decide) (by decide) rfl (by decide) ?_
        exact law_35 hL C1 hK hZ ih (by omega) (by omega) hok hP hD hS hl
      by_cases h36 : j = 36
      · skip
        refine x_is 36 (by rw [ev_3, ej, h36]; rfl) ?_
        refine lv_tableIn (tgt := 1220) hx hb dL_law_33 (by decide) (by decide) rfl (by decide) ?_
        exact law_36 hL C1 hK hZ ih (by omega) (by omega) hok hP hD hS hl
      by_cases h37 : j = 37
      · skip
        refine x_is 37 (by rw [ev_3, ej, h37]; rfl) ?_
        refine lv_tableIn (tgt := 1243) hx hb dL_law_33 (by decide) (by decide) rfl (by decide) ?_
        exact law_37 hL C1 hK hZ ih (by omega) (by omega) hok hP hD hS hl
      by_cases h38 : j = 38
      · skip
        refine x_is 38 (by rw [ev_3, ej, h38]; rfl) ?_
        refine lv_tableIn (tgt := 1266) hx hb dL_law_33 (by decide) (by decide) rfl (by decide) ?_
        exact law_38 hL C1 hK hZ ih (by omega) (by omega) hok hP hD hS hl
      by_cases h39 : j = 39
      · skip
        refine x_is 39 (by rw [ev_3, ej, h39]; rfl) ?_
        refine lv_tableIn (tgt := 1289) hx hb dL_law_33 (by decide) (by decide) rfl (by decide) ?_
        exact law_39 hL C1 hK hZ ih (by omega) (by omega) hok hP hD hS hl
      by_cases h40 : j = 40
      · skip
        refine x_is 40 (by rw [ev_3, ej, h40]; rfl) ?_
        refine lv_tableIn (tgt := 1322) hx hb dL_law_33 (by decide) (by decide) rfl (by decide) ?_
        exact law_40 hL C1 hK hZ ih (by omega) (by omega) hok hP hD hS hl
      by_cases h41 : j = 41
      · skip
        refine x_is 41 (by rw [ev_3, ej, h41]; rfl) ?_
        refine lv_tableIn (tgt := 1345) hx hb dL_law_33 (by decide) (by decide) rfl (by decide) ?_
        exact law_41 hL C1 hK hZ ih (by omega) (by omega) hok hP hD hS hl
      by_cases h42 : j = 42
      · skip
        refine x_is 42 (by rw [ev_3, ej, h42]; rfl) ?_
        refine lv_tableIn (tgt := 1368) hx hb dL_law_33 (by decide) (by decide) rfl (by decide) ?_
        exact law_42 hL C1 hK hZ ih (by omega) (by omega) hok hP hD hS hl
      by_cases h43 : j = 43
      · skip
        refine x_is 43 (by rw [ev_3, ej, h43]; rfl) ?_
        refine lv_tableIn (tgt := 1411) hx hb dL_law_33 (by decide) (by decide) rfl (by decide) ?_
        exact law_43 hL C1 hK hZ ih (by omega) (by omega) hok hP hD hS hl
      by_cases h44 : j = 44
      · skip
        refine x_is 44 (by rw [ev_3, ej, h44]; rfl) ?_
        refine lv_tableIn (tgt := 1454) hx hb dL_law_33 (by decide) (by decide) rfl (by decide) ?_
        exact law_44 hL C1 hK hZ ih (by omega) (by omega) hok hP hD hS hl
      by_cases h45 : j = 45
      · skip
        refine x_is 45 (by rw [ev_3, ej, h45]; rfl) ?_
        refine lv_tableIn (tgt := 1477) hx hb dL_law_33 (by decide) (by decide) rfl (by decide) ?_
        exact law_45 hL C1 hK hZ ih (by omega) (by omega) hok hP hD hS hl
      by_cases h46 : j = 46
      · skip
        refine x_is 46 (by rw [ev_3, ej, h46]; rfl) ?_
        refine lv_tableIn (tgt := 1490) hx hb dL_law_33 (by decide) (by decide) rfl (by decide) ?_
        exact law_46 hL C1 hK hZ ih (by omega) (by omega) hok hP hD hS hl
      by_cases h47 : j = 47
      · skip
        refine x_is 47 (by rw [ev_3, ej, h47]; rfl) ?_
        refine lv_tableIn (tgt := 1503) hx hb dL_law_33 (by decide) (by decide) rfl (by decide) ?_
        exact law_47 hL C1 hK hZ ih (by omega) (by omega) hok hP hD hS hl
      by_cases h48 : j = 48
      · skip
        refine x_is 48 (by rw [ev_3, ej, h48]; rfl) ?_
        refine lv_tableIn (tgt := 1526) hx hb dL_law_33 (by decide) (by decide) rfl (by decide) ?_
        exact law_48 hL C1 hK hZ ih (by omega) (by omega) hok hP hD hS hl
      by_cases h49 : j = 49
      · skip
        refine x_is 49 (by rw [ev_3, ej, h49]; rfl) ?_
        refine lv_tableIn (tgt := 1559) hx hb dL_law_33 (by decide) (by decide) rfl (by decide) ?_
        exact law_49 hL C1 hK hZ ih (by omega) (by omega) hok hP hD hS hl
      by_cases h50 : j = 50
      · skip
        refine x_is 50 (by rw [ev_3, ej, h50]; rfl) ?_
        refine lv_tableIn (tgt := 1592) hx hb dL_law_33 (by decide) (by decide) rfl (by decide) ?_
        exact law_50 hL C1 hK hZ ih (by omega) (by omega) hok hP hD hS hl
      by_cases h51 : j = 51
      · skip
        refine x_is 51 (by rw [ev_3, ej, h51]; rfl) ?_
        refine lv_tableIn (tgt := 1625) hx hb dL_law_33 (by decide) (by decide) rfl (by decide) ?_
        exact law_51 hL C1 hK hZ ih (by omega) (by omega) hok hP hD hS hl
      by_cases h52 : j = 52
      · skip
        refine x_is 52 (by rw [ev_3, ej, h52]; rfl) ?_
        refine lv_tableIn (tgt := 1648) hx hb dL_law_33 (by decide) (by decide) rfl (by decide) ?_
        exact law_52 hL C1 hK hZ ih (by omega) (by omega) hok hP hD hS hl
      by_cases h53 : j = 53
      · skip
        refine x_is 53 (by rw [ev_3, ej, h53]; rfl) ?_
        refine lv_tableIn (tgt := 1671) hx hb dL_law_33 (by decide) (by decide) rfl (by decide) ?_
        exact law_53 hL C1 hK hZ ih (by omega) (by omega) hok hP hD hS hl
      by_cases h54 : j = 54
      · skip
        refine x_is 54 (by rw [ev_3, ej, h54]; rfl) ?_
        refine lv_tableIn (tgt := 1684) hx hb dL_law_33 (by decide) (by decide) rfl (by decide) ?_
        exact law_54 hL C1 hK hZ ih (by omega) (by omega) hok hP hD hS hl
      by_cases h55 : j = 55
      · skip
        refine x_is 55 (by rw [ev_3, ej, h55]; rfl) ?_
        refine lv_tableIn (tgt := 1717) hx hb dL_law_33 (by decide) (by decide) rfl (by decide) ?_
        exact law_55 hL C1 hK hZ ih (by omega) (by omega) hok hP hD hS hl
      by_cases h56 : j = 56
      · skip
        refine x_is 56 (by rw [ev_3, ej, h56]; rfl) ?_
        refine lv_tableIn (tgt := 1770) hx hb dL_law_33 (by decide) (by decide) rfl (by decide) ?_
        exact law_56 hL C1 hK hZ ih (by omega) (by omega) hok hP hD hS hl
      by_cases h57 : j = 57
      · skip
        refine x_is 57 (by rw [ev_3, ej, h57]; rfl) ?_
        refine lv_tableIn (tgt := 1823) hx hb dL_law_33 (by decide) (by decide) rfl (by decide) ?_
        exact law_57 hL C1 hK hZ ih (by omega) (by omega) hok hP hD hS hl
      by_cases h58 : j = 58
      · skip
        refine x_is 58 (by rw [ev_3, ej, h58]; rfl) ?_
        refine lv_tableIn (tgt := 1856) hx hb dL_law_33 (by decide) (by decide) rfl (by decide) ?_
        exact law_58 hL C1 hK hZ ih (by omega) (by omega) hok hP hD hS hl
      by_cases h59 : j = 59
      · skip
        refine x_is 59 (by rw [ev_3, ej, h59]; rfl) ?_
        refine lv_tableIn (tgt := 1899) hx hb dL_law_33 (by decide) (by decide) rfl (by decide) ?_
        exact law_59 hL C1 hK hZ ih (by omega) (by omega) hok hP hD hS hl
      by_cases h60 : j = 60
      · skip
        refine x_is 60 (by rw [ev_3, ej, h60]; rfl) ?_
        refine lv_tableIn (tgt := 1932) hx hb dL_law_33 (by decide) (by decide) rfl (by decide) ?_
        exact law_60 hL C1 hK hZ ih (by omega) (by omega) hok hP hD hS hl
      by_cases h61 : j = 61
      · skip
        refine x_is 61 (by rw [ev_3, ej, h61]; rfl) ?_
        refine lv_tableIn (tgt := 1945) hx hb dL_law_33 (by decide) (by decide) rfl (by decide) ?_
        exact law_61 hL C1 hK hZ ih (by omega) (by omega) hok hP hD hS hl
      by_cases h62 : j = 62
      · skip
        refine x_is 62 (by rw [ev_3, ej, h62]; rfl) ?_
        refine lv_tableIn (tgt := 1958) hx hb dL_law_33 (by decide) (by decide) rfl (by decide) ?_
        exact law_62 hL C1 hK hZ ih (by omega) (by omega) hok hP hD hS hl
      by_cases h63 : j = 63
      · skip
        refine x_is 63 (by rw [ev_3, ej, h63]; rfl) ?_
        refine lv_tableIn (tgt := 1991) hx hb dL_law_33 (by decide) (by decide) rfl (by decide) ?_
        exact law_63 hL C1 hK hZ ih (by omega) (by omega) hok hP hD hS hl
      by_cases h64 : j = 64
      · skip
        refine x_is 64 (by rw [ev_3, ej, h64]; rfl) ?_
        refine lv_tableIn (tgt := 2044) hx hb dL_law_33 (by decide) (by decide) rfl (by decide) ?_
        exact law_64 hL C1 hK hZ ih (by omega) (by omega) hok hP hD hS hl
      by_cases h65 : j = 65
      · skip
        refine x_is 65 (by rw [ev_3, ej, h65]; rfl) ?_
        refine lv_tableIn (tgt := 2077) hx hb dL_law_33 (by decide) (by decide) rfl (by decide) ?_
        exact law_65 hL C1 hK hZ ih (by omega) (by omega) hok hP hD hS hl
      by_cases h66 : j = 66
      · skip
        refine x_is 66 (by rw [ev_3, ej, h66]; rfl) ?_
        refine lv_tableIn (tgt := 2100) hx hb dL_law_33 (by decide) (by decide) rfl (by decide) ?_
        exact law_66 hL C1 hK hZ ih (by omega) (by omega) hok hP hD hS hl
      by_cases h67 : j = 67
      · skip
        refine x_is 67 (by rw [ev_3, ej, h67]; rfl) ?_
        refine lv_tableIn (tgt := 2123) hx hb dL_law_33 (by decide) (by decide) rfl (by decide) ?_
        exact law_67 hL C1 hK hZ ih (by omega) (by omega) hok hP hD hS hl
      by_cases h68 : j = 68
      · skip
        refine x_is 68 (by rw [ev_3, ej, h68]; rfl) ?_
        refine lv_tableIn (tgt := 2146) hx hb dL_law_33 (by decide) (by decide) rfl (by decide) ?_
        exact law_68 hL C1 hK hZ ih (by omega) (by omega) hok hP hD hS hl
      by_cases h69 : j = 69
      · skip
        refine x_is 69 (by rw [ev_3, ej, h69]; rfl) ?_
        refine lv_tableIn (tgt := 2189) hx hb dL_law_33 (by decide) (by decide) rfl (by decide) ?_
        exact law_69 hL C1 hK hZ ih (by omega) (by omega) hok hP hD hS hl
      by_cases h70 : j = 70
      · skip
        refine x_is 70 (by rw [ev_3, ej, h70]; rfl) ?_
        refine lv_tableIn (tgt := 2262) hx hb dL_law_33 (by decide) (by decide) rfl (by decide) ?_
        exact law_70 hL C1 hK hZ ih (by omega) (by omega) hok hP hD hS hl
      refine lv_tableOut (tgt := 2325) hx hb dL_law_33 (Or.inr (by rw [ev_3, ej, nI_toInt (by omega)]; omega)) (by decide) ?_
      exact law_end hL C1 hK hZ ih (by omega) (by omega) hok hP hD hS hl
set_option maxHeartbeats 8000000 in
set_option maxRecDepth 100000 in
theorem whole_start {p : Program} {e : Env} {s : State} {m : MethodId} {below : List Frame} {meth : Method} {c : Code} (l : Launch) (hflags : l.flags = flags0) {b L : Nat} {xs : Nat → Int32} (hL : L ≤ 3072) (C0 : lw_At p s m meth c b L xs) : W p l e room_1 s m #[Value.ref b] below meth c s.heap [] 0 0 (lw_Z below #[Value.ref b] s) (entryFrame m ([Value.ref b] : List Value).toArray 4) := by
  have C1 := C0
  obtain ⟨hx, hb, hr, hml, hown, hts, hX, hbl, hlocks, hgv⟩ := C0
  have S : CallFix p m c cL_law 4 s #[Value.ref b] TB RL := ⟨hx, hb, hml, hown, tb_of hts⟩
  have hA : ∀ q : Nat, s.heap.size ≤ q → (fun q : Nat => s.heap.size ≤ q) q := fun _ h => h
  have hbA : ¬ (fun q : Nat => s.heap.size ≤ q) b := Nat.not_le.mpr hbl
  obtain ⟨D, k, hK⟩ := law_known (tb_of hts) hts
  obtain ⟨z, hZ⟩ := law_str hts hgv
  have hS : va_S (fun q : Nat => s.heap.size ≤ q) s.heap s.heap [] := va_S.rf
  have hP : va_P D vwCl [] s.heap := P_nil
  have hD : va_D (fun q : Nat => s.heap.size ≤ q) [] := D_nil
  have hl := lv_entry ([.ref b]) (n := 4) (Nat.le_of_ble_eq_true rfl)
  rw [lg_entry_eq]
  generalize (lg_sl ([.ref b]) ++ List.replicate (4 - (lg_sl ([.ref b])).length) Slot.unset).toArray = ls at hl ⊢
  have hl : lv_has ls 4 [(0, .ref b)] := hl
  refine x_new (ws' := fun q_1 => [(q_1, .inr (10, [.null, .null, .null, .null, .null, .null, .null, .null, .null, .null, .null, .null, .null, .null]))]) S hK hP hD hS hA cfX10 lkL_7 (by decide +kernel) (Nat.le_of_ble_eq_true rfl) (Nat.le_of_ble_eq_true rfl) (fun _ => rfl) dL_law_0 (fun q_1 H hP hD hS => ?_)
  refine W.widen (k := 1) (n := 14) (Nat.le_of_ble_eq_true rfl) (Nat.le_of_ble_eq_true rfl) ?_
  refine lv_dup hx hb dL_law_3 rfl ?_
  refine x_muIv (wr := []) (As := []) S hK hP hD hZ hS hA hl mwX10_init lkL_9 (ctX10_init l D k z q_1 ) [0] [] rfl rfl (by decide) (by decide) (by decide) rfl rfl ⟨Nat.le_of_ble_eq_true rfl, Nat.le_of_ble_eq_true rfl, Nat.le_of_ble_eq_true rfl⟩ dL_law_4 ⟨Nat.le_of_ble_eq_true rfl, Nat.le_of_ble_eq_true rfl⟩ (fun u_3 H locs hr_2 hP hD hS => ?_)
  have hP : va_P D vwCl [((u_3.1 0), .inr (10, [.ref (u_3.1 1), .ref (u_3.1 2), .ref (u_3.1 3), .ref (u_3.1 4), .ref (u_3.1 5), .ref (u_3.1 6), .ref (u_3.1 7), .ref (u_3.1 8), .ref (u_3.1 9), .ref (u_3.1 10), .ref (u_3.1 11), .ref (u_3.1 12), .ref (u_3.1 13), .ref (u_3.1 14)])), ((u_3.1 1), .inr (4, [.ref (u_3.1 15), .int 0, .int 0, .int (-1), .int 0, .int 0, .int 0, .int 0, .int 0])), ((u_3.1 15), .inl (k 1, 600, .inl (fun _ => 0))), ((u_3.1 2), .inr (2, [.int 0, .int 0, .int 0, .int 0, .int 0, .int 0, .int 0, .int 0, .int 0, .ref (u_3.1 16), .ref (u_3.1 17), .ref (u_3.1 18), .ref (u_3.1 19), .ref (u_3.1 20), .ref (u_3.1 21), .ref (u_3.1 22), .ref (u_3.1 23), .ref (u_3.1 24), .ref (u_3.1 25)])), ((u_3.1 16), .inl (k 0, 12, .inl (fun _ => 0))), ((u_3.1 17), .inl (k 0, 12, .inl (fun _ => 0))), ((u_3.1 18), .inl (k 0, 12, .inl (fun _ => 0))), ((u_3.1 19), .inl (k 0, 12, .inl (fun _ => 0))), ((u_3.1 20), .inl (k 0, 12, .inl (fun _ => 0))), ((u_3.1 21), .inl (k 0, 12, .inl (fun _ => 0))), ((u_3.1 22), .inl (k 0, 4, .inl (fun _ => 0))), ((u_3.1 23), .inl (k 0, 42, .inl (fun _ => 0))), ((u_3.1 24), .inl (k 0, 42, .inl (fun _ => 0))), ((u_3.1 25), .inl (k 0, 42, .inl (fun _ => 0))), ((u_3.1 3), .inr (2, [.int 0, .int 0, .int 0, .int 0, .int 0, .int 0, .int 0, .int 0, .int 0, .ref (u_3.1 26), .ref (u_3.1 27), .ref (u_3.1 28), .ref (u_3.1 29), .ref (u_3.1 30), .ref (u_3.1 31), .ref (u_3.1 32), .ref (u_3.1 33), .ref (u_3.1 34), .ref (u_3.1 35)])), ((u_3.1 26), .inl (k 0, 12, .inl (fun _ => 0))), ((u_3.1 27), .inl (k 0, 12, .inl (fun _ => 0))), ((u_3.1 28), .inl (k 0, 12, .inl (fun _ => 0))), ((u_3.1 29), .inl (k 0, 12, .inl (fun _ => 0))), ((u_3.1 30), .inl (k 0, 12, .inl (fun _ => 0))), ((u_3.1 31), .inl (k 0, 12, .inl (fun _ => 0))), ((u_3.1 32), .inl (k 0, 4, .inl (fun _ => 0))), ((u_3.1 33), .inl (k 0, 42, .inl (fun _ => 0))), ((u_3.1 34), .inl (k 0, 42, .inl (fun _ => 0))), ((u_3.1 35), .inl (k 0, 42, .inl (fun _ => 0))), ((u_3.1 4), .inr (3, [.ref (u_3.1 69), .ref (u_3.1 70), .ref (u_3.1 71)])), ((u_3.1 69), .inl (k 0, 17, .inl (u_3.2.2.2.2.2.2.1 0))), ((u_3.1 70), .inl (k 0, 17, .inl (u_3.2.2.2.2.2.2.1 1))), ((u_3.1 71), .inl (k 0, 17, .inl (u_3.2.2.2.2.2.2.1 2))), ((u_3.1 5), .inr (1, [.ref (u_3.1 3), .ref (u_3.1 4), .int (u_3.2.2.2.2.1 0), .int (u_3.2.2.2.2.1 1), .int (u_3.2.2.2.2.1 2), .int (u_3.2.2.2.2.1 3), .int (u_3.2.2.2.2.1 4), .ref (u_3.1 72)])), ((u_3.1 72), .inl (k 0, 17, .inl (u_3.2.2.2.2.2.2.1 3))), ((u_3.1 6), .inr (1, [.ref (u_3.1 3), .ref (u_3.1 4), .int 0, .int 0, .int 0, .int 0, .int 0, .ref (u_3.1 73)])), ((u_3.1 73), .inl (k 0, 17, .inl (fun _ => 0))), ((u_3.1 7), .inr (7, [.ref (u_3.1 3), .ref (u_3.1 4), .ref (u_3.1 5)])), ((u_3.1 8), .inr (8, [.ref (u_3.1 3), .ref (u_3.1 4), .ref (u_3.1 6), .ref (u_3.1 74), .ref (u_3.1 75), .ref (u_3.1 76)])), ((u_3.1 74), .inl (k 0, 3, .inl (u_3.2.2.2.2.2.2.1 4))), ((u_3.1 76), .inl (k 3, 3, .inl (u_3.2.2.2.2.2.2.1 5))), ((u_3.1 75), .inl (k 5, 3, .inr (.inr (.inr (.inr (fun i => if i < 3 then some (u_3.2.1 i) else none)))))), ((u_3.2.1 0), .inl (k 0, 256, .inl (fun _ => 0))), ((u_3.2.1 1), .inl (k 0, 256, .inl (fun _ => 0))), ((u_3.2.1 2), .inl (k 0, 256, .inl (fun _ => 0))), ((u_3.1 9), .inr (0, [.ref (u_3.1 3), .ref (u_3.1 6), .int (u_3.2.2.2.2.1 5), .int 0])), ((u_3.1 10), .inr (6, [.ref (u_3.1 77), .ref (u_3.1 78), .ref (u_3.1 79)])), ((u_3.1 77), .inl (k 6, 4, .inr (.inr (.inr (.inr (fun i => if i < 4 then some (u_3.2.2.1 i) else none)))))), ((u_3.2.2.1 0), .inl (k 2, 60, .inr (.inl (fun _ => 0)))), ((u_3.2.2.1 1), .inl (k 2, 60, .inr (.inl (fun _ => 0)))), ((u_3.2.2.1 2), .inl (k 2, 60, .inr (.inl (fun _ => 0)))), ((u_3.2.2.1 3), .inl (k 2, 60, .inr (.inl (fun _ => 0)))), ((u_3.1 78), .inl (k 0, 4, .inl (fun _ => 0))), ((u_3.1 79), .inl (k 0, 4, .inl m1)), ((u_3.1 11), .inr (5, [.ref (u_3.1 3), .ref (u_3.1 10), .ref (u_3.1 6), .ref (u_3.1 80), .int 0, .int 0, .int 0])), ((u_3.1 80), .inl (k 5, 12, .inr (.inr (.inr (.inr (fun i => if i < 12 then some (u_3.2.2.2.1 i) else none)))))), ((u_3.2.2.2.1 0), .inl (k 0, 17, .inl (fun _ => 0))), ((u_3.2.2.2.1 1), .inl (k 0, 17, .inl (fun _ => 0))), ((u_3.2.2.2.1 2), .inl (k 0, 17, .inl (fun _ => 0))), ((u_3.2.2.2.1 3), .inl (k 0, 17, .inl (fun _ => 0))), ((u_3.2.2.2.1 4), .inl (k 0, 17, .inl (fun _ => 0))), ((u_3.2.2.2.1 5), .inl (k 0, 17, .inl (fun _ => 0))), ((u_3.2.2.2.1 6), .inl (k 0, 17, .inl (fun _ => 0))), ((u_3.2.2.2.1 7), .inl (k 0, 17, .inl (fun _ => 0))), ((u_3.2.2.2.1 8), .inl (k 0, 17, .inl (fun _ => 0))), ((u_3.2.2.2.1 9), .inl (k 0, 17, .inl (fun _ => 0))), ((u_3.2.2.2.1 10), .inl (k 0, 17, .inl (fun _ => 0))), ((u_3.2.2.2.1 11), .inl (k 0, 17, .inl (fun _ => 0))), ((u_3.1 12), .inr (9, [.ref (u_3.1 3), .ref (u_3.1 5), .ref (u_3.1 6), .ref (u_3.1 81), .ref (u_3.1 82), .int 0, .ref (u_3.1 83), .ref (u_3.1 84), .int 0])), ((u_3.1 81), .inl (k 0, 256, .inl (fun _ => 0))), ((u_3.1 82), .inl (k 2, 256, .inr (.inl (fun _ => 0)))), ((u_3.1 83), .inl (k 0, 256, .inl (fun _ => 0))), ((u_3.1 84), .inl (k 2, 256, .inr (.inl (fun _ => 0)))), ((u_3.1 13), .inl (k 4, 3, .inr (.inr (.inr (.inr (va_up (va_up (va_up (fun _ => none) 0 (some (u_3.1 36))) 1 (some (u_3.1 47))) 2 (some (u_3.1 58)))))))), ((u_3.1 14), .inl (k 3, 3, .inl (fun _ => 0))), ((u_3.1 36), .inr (2, [.int 0, .int 0, .int 0, .int 0, .int 0, .int 0, .int 0, .int 0, .int 0, .ref (u_3.1 37), .ref (u_3.1 38), .ref (u_3.1 39), .ref (u_3.1 40), .ref (u_3.1 41), .ref (u_3.1 42), .ref (u_3.1 43), .ref (u_3.1 44), .ref (u_3.1 45), .ref (u_3.1 46)])), ((u_3.1 37), .inl (k 0, 12, .inl (fun _ => 0))), ((u_3.1 38), .inl (k 0, 12, .inl (fun _ => 0))), ((u_3.1 39), .inl (k 0, 12, .inl (fun _ => 0))), ((u_3.1 40), .inl (k 0, 12, .inl (fun _ => 0))), ((u_3.1 41), .inl (k 0, 12, .inl (fun _ => 0))), ((u_3.1 42), .inl (k 0, 12, .inl (fun _ => 0))), ((u_3.1 43), .inl (k 0, 4, .inl (fun _ => 0))), ((u_3.1 44), .inl (k 0, 42, .inl (fun _ => 0))), ((u_3.1 45), .inl (k 0, 42, .inl (fun _ => 0))), ((u_3.1 46), .inl (k 0, 42, .inl (fun _ => 0))), ((u_3.1 47), .inr (2, [.int 0, .int 0, .int 0, .int 0, .int 0, .int 0, .int 0, .int 0, .int 0, .ref (u_3.1 48), .ref (u_3.1 49), .ref (u_3.1 50), .ref (u_3.1 51), .ref (u_3.1 52), .ref (u_3.1 53), .ref (u_3.1 54), .ref (u_3.1 55), .ref (u_3.1 56), .ref (u_3.1 57)])), ((u_3.1 48), .inl (k 0, 12, .inl (fun _ => 0))), ((u_3.1 49), .inl (k 0, 12, .inl (fun _ => 0))), ((u_3.1 50), .inl (k 0, 12, .inl (fun _ => 0))), ((u_3.1 51), .inl (k 0, 12, .inl (fun _ => 0))), ((u_3.1 52), .inl (k 0, 12, .inl (fun _ => 0))), ((u_3.1 53), .inl (k 0, 12, .inl (fun _ => 0))), ((u_3.1 54), .inl (k 0, 4, .inl (fun _ => 0))), ((u_3.1 55), .inl (k 0, 42, .inl (fun _ => 0))), ((u_3.1 56), .inl (k 0, 42, .inl (fun _ => 0))), ((u_3.1 57), .inl (k 0, 42, .inl (fun _ => 0))), ((u_3.1 58), .inr (2, [.int 0, .int 0, .int 0, .int 0, .int 0, .int 0, .int 0, .int 0, .int 0, .ref (u_3.1 59), .ref (u_3.1 60), .ref (u_3.1 61), .ref (u_3.1 62), .ref (u_3.1 63), .ref (u_3.1 64), .ref (u_3.1 65), .ref (u_3.1 66), .ref (u_3.1 67), .ref (u_3.1 68)])), ((u_3.1 59), .inl (k 0, 12, .inl (fun _ => 0))), ((u_3.1 60), .inl (k 0, 12, .inl (fun _ => 0))), ((u_3.1 61), .inl (k 0, 12, .inl (fun _ => 0))), ((u_3.1 62), .inl (k 0, 12, .inl (fun _ => 0))), ((u_3.1 63), .inl (k 0, 12, .inl (fun _ => 0))), ((u_3.1 64), .inl (k 0, 12, .inl (fun _ => 0))), ((u_3.1 65), .inl (k 0, 4, .inl (fun _ => 0))), ((u_3.1 66), .inl (k 0, 42, .inl (fun _ => 0))), ((u_3.1 67), .inl (k 0, 42, .inl (fun _ => 0))), ((u_3.1 68), .inl (k 0, 42, .inl (fun _ => 0)))] H := hP
  have hD : va_D (fun q : Nat => s.heap.size ≤ q) [((u_3.1 0), .inr (10, [.ref (u_3.1 1), .ref (u_3.1 2), .ref (u_3.1 3), .ref (u_3.1 4), .ref (u_3.1 5), .ref (u_3.1 6), .ref (u_3.1 7), .ref (u_3.1 8), .ref (u_3.1 9), .ref (u_3.1 10), .ref (u_3.1 11), .ref (u_3.1 12), .ref (u_3.1 13), .ref (u_3.1 14)])), ((u_3.1 1), .inr (4, [.ref (u_3.1 15), .int 0, .int 0, .int (-1), .int 0, .int 0, .int 0, .int 0, .int 0])), ((u_3.1 15), .inl (k 1, 600, .inl (fun _ => 0))), ((u_3.1 2), .inr (2, [.int 0, .int 0, .int 0, .int 0, .int 0, .int 0, .int 0, .int 0, .int 0, .ref (u_3.1 16), .ref (u_3.1 17), .ref (u_3.1 18), .ref (u_3.1 19), .ref (u_3.1 20), .ref (u_3.1 21), .ref (u_3.1 22), .ref (u_3.1 23), .ref (u_3.1 24), .ref (u_3.1 25)])), ((u_3.1 16), .inl (k 0, 12, .inl (fun _ => 0))), ((u_3.1 17), .inl (k 0, 12, .inl (fun _ => 0))), ((u_3.1 18), .inl (k 0, 12, .inl (fun _ => 0))), ((u_3.1 19), .inl (k 0, 12, .inl (fun _ => 0))), ((u_3.1 20), .inl (k 0, 12, .inl (fun _ => 0))), ((u_3.1 21), .inl (k 0, 12, .inl (fun _ => 0))), ((u_3.1 22), .inl (k 0, 4, .inl (fun _ => 0))), ((u_3.1 23), .inl (k 0, 42, .inl (fun _ => 0))), ((u_3.1 24), .inl (k 0, 42, .inl (fun _ => 0))), ((u_3.1 25), .inl (k 0, 42, .inl (fun _ => 0))), ((u_3.1 3), .inr (2, [.int 0, .int 0, .int 0, .int 0, .int 0, .int 0, .int 0, .int 0, .int 0, .ref (u_3.1 26), .ref (u_3.1 27), .ref (u_3.1 28), .ref (u_3.1 29), .ref (u_3.1 30), .ref (u_3.1 31), .ref (u_3.1 32), .ref (u_3.1 33), .ref (u_3.1 34), .ref (u_3.1 35)])), ((u_3.1 26), .inl (k 0, 12, .inl (fun _ => 0))), ((u_3.1 27), .inl (k 0, 12, .inl (fun _ => 0))), ((u_3.1 28), .inl (k 0, 12, .inl (fun _ => 0))), ((u_3.1 29), .inl (k 0, 12, .inl (fun _ => 0))), ((u_3.1 30), .inl (k 0, 12, .inl (fun _ => 0))), ((u_3.1 31), .inl (k 0, 12, .inl (fun _ => 0))), ((u_3.1 32), .inl (k 0, 4, .inl (fun _ => 0))), ((u_3.1 33), .inl (k 0, 42, .inl (fun _ => 0))), ((u_3.1 34), .inl (k 0, 42, .inl (fun _ => 0))), ((u_3.1 35), .inl (k 0, 42, .inl (fun _ => 0))), ((u_3.1 4), .inr (3, [.ref (u_3.1 69), .ref (u_3.1 70), .ref (u_3.1 71)])), ((u_3.1 69), .inl (k 0, 17, .inl (u_3.2.2.2.2.2.2.1 0))), ((u_3.1 70), .inl (k 0, 17, .inl (u_3.2.2.2.2.2.2.1 1))), ((u_3.1 71), .inl (k 0, 17, .inl (u_3.2.2.2.2.2.2.1 2))), ((u_3.1 5), .inr (1, [.ref (u_3.1 3), .ref (u_3.1 4), .int (u_3.2.2.2.2.1 0), .int (u_3.2.2.2.2.1 1), .int (u_3.2.2.2.2.1 2), .int (u_3.2.2.2.2.1 3), .int (u_3.2.2.2.2.1 4), .ref (u_3.1 72)])), ((u_3.1 72), .inl (k 0, 17, .inl (u_3.2.2.2.2.2.2.1 3))), ((u_3.1 6), .inr (1, [.ref (u_3.1 3), .ref (u_3.1 4), .int 0, .int 0, .int 0, .int 0, .int 0, .ref (u_3.1 73)])), ((u_3.1 73), .inl (k 0, 17, .inl (fun _ => 0))), ((u_3.1 7), .inr (7, [.ref (u_3.1 3), .ref (u_3.1 4), .ref (u_3.1 5)])), ((u_3.1 8), .inr (8, [.ref (u_3.1 3), .ref (u_3.1 4), .ref (u_3.1 6), .ref (u_3.1 74), .ref (u_3.1 75), .ref (u_3.1 76)])), ((u_3.1 74), .inl (k 0, 3, .inl (u_3.2.2.2.2.2.2.1 4))), ((u_3.1 76), .inl (k 3, 3, .inl (u_3.2.2.2.2.2.2.1 5))), ((u_3.1 75), .inl (k 5, 3, .inr (.inr (.inr (.inr (fun i => if i < 3 then some (u_3.2.1 i) else none)))))), ((u_3.2.1 0), .inl (k 0, 256, .inl (fun _ => 0))), ((u_3.2.1 1), .inl (k 0, 256, .inl (fun _ => 0))), ((u_3.2.1 2), .inl (k 0, 256, .inl (fun _ => 0))), ((u_3.1 9), .inr (0, [.ref (u_3.1 3), .ref (u_3.1 6), .int (u_3.2.2.2.2.1 5), .int 0])), ((u_3.1 10), .inr (6, [.ref (u_3.1 77), .ref (u_3.1 78), .ref (u_3.1 79)])), ((u_3.1 77), .inl (k 6, 4, .inr (.inr (.inr (.inr (fun i => if i < 4 then some (u_3.2.2.1 i) else none)))))), ((u_3.2.2.1 0), .inl (k 2, 60, .inr (.inl (fun _ => 0)))), ((u_3.2.2.1 1), .inl (k 2, 60, .inr (.inl (fun _ => 0)))), ((u_3.2.2.1 2), .inl (k 2, 60, .inr (.inl (fun _ => 0)))), ((u_3.2.2.1 3), .inl (k 2, 60, .inr (.inl (fun _ => 0)))), ((u_3.1 78), .inl (k 0, 4, .inl (fun _ => 0))), ((u_3.1 79), .inl (k 0, 4, .inl m1)), ((u_3.1 11), .inr (5, [.ref (u_3.1 3), .ref (u_3.1 10), .ref (u_3.1 6), .ref (u_3.1 80), .int 0, .int 0, .int 0])), ((u_3.1 80), .inl (k 5, 12, .inr (.inr (.inr (.inr (fun i => if i < 12 then some (u_3.2.2.2.1 i) else none)))))), ((u_3.2.2.2.1 0), .inl (k 0, 17, .inl (fun _ => 0))), ((u_3.2.2.2.1 1), .inl (k 0, 17, .inl (fun _ => 0))), ((u_3.2.2.2.1 2), .inl (k 0, 17, .inl (fun _ => 0))), ((u_3.2.2.2.1 3), .inl (k 0, 17, .inl (fun _ => 0))), ((u_3.2.2.2.1 4), .inl (k 0, 17, .inl (fun _ => 0))), ((u_3.2.2.2.1 5), .inl (k 0, 17, .inl (fun _ => 0))), ((u_3.2.2.2.1 6), .inl (k 0, 17, .inl (fun _ => 0))), ((u_3.2.2.2.1 7), .inl (k 0, 17, .inl (fun _ => 0))), ((u_3.2.2.2.1 8), .inl (k 0, 17, .inl (fun _ => 0))), ((u_3.2.2.2.1 9), .inl (k 0, 17, .inl (fun _ => 0))), ((u_3.2.2.2.1 10), .inl (k 0, 17, .inl (fun _ => 0))), ((u_3.2.2.2.1 11), .inl (k 0, 17, .inl (fun _ => 0))), ((u_3.1 12), .inr (9, [.ref (u_3.1 3), .ref (u_3.1 5), .ref (u_3.1 6), .ref (u_3.1 81), .ref (u_3.1 82), .int 0, .ref (u_3.1 83), .ref (u_3.1 84), .int 0])), ((u_3.1 81), .inl (k 0, 256, .inl (fun _ => 0))), ((u_3.1 82), .inl (k 2, 256, .inr (.inl (fun _ => 0)))), ((u_3.1 83), .inl (k 0, 256, .inl (fun _ => 0))), ((u_3.1 84), .inl (k 2, 256, .inr (.inl (fun _ => 0)))), ((u_3.1 13), .inl (k 4, 3, .inr (.inr (.inr (.inr (va_up (va_up (va_up (fun _ => none) 0 (some (u_3.1 36))) 1 (some (u_3.1 47))) 2 (some (u_3.1 58)))))))), ((u_3.1 14), .inl (k 3, 3, .inl (fun _ => 0))), ((u_3.1 36), .inr (2, [.int 0, .int 0, .int 0, .int 0, .int 0, .int 0, .int 0, .int 0, .int 0, .ref (u_3.1 37), .ref (u_3.1 38), .ref (u_3.1 39), .ref (u_3.1 40), .ref (u_3.1 41), .ref (u_3.1 42), .ref (u_3.1 43), .ref (u_3.1 44), .ref (u_3.1 45), .ref (u_3.1 46)])), ((u_3.1 37), .inl (k 0, 12, .inl (fun _ => 0))), ((u_3.1 38), .inl (k 0, 12, .inl (fun _ => 0))), ((u_3.1 39), .inl (k 0, 12, .inl (fun _ => 0))), ((u_3.1 40), .inl (k 0, 12, .inl (fun _ => 0))), ((u_3.1 41), .inl (k 0, 12, .inl (fun _ => 0))), ((u_3.1 42), .inl (k 0, 12, .inl (fun _ => 0))), ((u_3.1 43), .inl (k 0, 4, .inl (fun _ => 0))), ((u_3.1 44), .inl (k 0, 42, .inl (fun _ => 0))), ((u_3.1 45), .inl (k 0, 42, .inl (fun _ => 0))), ((u_3.1 46), .inl (k 0, 42, .inl (fun _ => 0))), ((u_3.1 47), .inr (2, [.int 0, .int 0, .int 0, .int 0, .int 0, .int 0, .int 0, .int 0, .int 0, .ref (u_3.1 48), .ref (u_3.1 49), .ref (u_3.1 50), .ref (u_3.1 51), .ref (u_3.1 52), .ref (u_3.1 53), .ref (u_3.1 54), .ref (u_3.1 55), .ref (u_3.1 56), .ref (u_3.1 57)])), ((u_3.1 48), .inl (k 0, 12, .inl (fun _ => 0))), ((u_3.1 49), .inl (k 0, 12, .inl (fun _ => 0))), ((u_3.1 50), .inl (k 0, 12, .inl (fun _ => 0))), ((u_3.1 51), .inl (k 0, 12, .inl (fun _ => 0))), ((u_3.1 52), .inl (k 0, 12, .inl (fun _ => 0))), ((u_3.1 53), .inl (k 0, 12, .inl (fun _ => 0))), ((u_3.1 54), .inl (k 0, 4, .inl (fun _ => 0))), ((u_3.1 55), .inl (k 0, 42, .inl (fun _ => 0))), ((u_3.1 56), .inl (k 0, 42, .inl (fun _ => 0))), ((u_3.1 57), .inl (k 0, 42, .inl (fun _ => 0))), ((u_3.1 58), .inr (2, [.int 0, .int 0, .int 0, .int 0, .int 0, .int 0, .int 0, .int 0, .int 0, .ref (u_3.1 59), .ref (u_3.1 60), .ref (u_3.1 61), .ref (u_3.1 62), .ref (u_3.1 63), .ref (u_3.1 64), .ref (u_3.1 65), .ref (u_3.1 66), .ref (u_3.1 67), .ref (u_3.1 68)])), ((u_3.1 59), .inl (k 0, 12, .inl (fun _ => 0))), ((u_3.1 60), .inl (k 0, 12, .inl (fun _ => 0))), ((u_3.1 61), .inl (k 0, 12, .inl (fun _ => 0))), ((u_3.1 62), .inl (k 0, 12, .inl (fun _ => 0))), ((u_3.1 63), .inl (k 0, 12, .inl (fun _ => 0))), ((u_3.1 64), .inl (k 0, 12, .inl (fun _ => 0))), ((u_3.1 65), .inl (k 0, 4, .inl (fun _ => 0))), ((u_3.1 66), .inl (k 0, 42, .inl (fun _ => 0))), ((u_3.1 67), .inl (k 0, 42, .inl (fun _ => 0))), ((u_3.1 68), .inl (k 0, 42, .inl (fun _ => 0)))] := hD
  refine W.widen (k := 104) (n := 4139) (Nat.le_of_ble_eq_true rfl) (Nat.le_of_ble_eq_true rfl) ?_
  have hP9 := hP
  have hD9 := hD
  have hS9 := hS
  have hl9 := hl
  subst hr_2
  have hP := hP9
  have hD := hD9
  have hS := hS9
  have hl := hl9
  refine lv_astore_n (lv' := [(1, .ref (u_3.1 0)), (0, .ref b)]) hx hb dL_law_7 rfl hl (by decide) rfl (fun ls hl => ?_)
  refine x_new (ws' := fun q_4 => [((u_3.1 0), .inr (10, [.ref (u_3.1 1), .ref (u_3.1 2), .ref (u_3.1 3), .ref (u_3.1 4), .ref (u_3.1 5), .ref (u_3.1 6), .ref (u_3.1 7), .ref (u_3.1 8), .ref (u_3.1 9), .ref (u_3.1 10), .ref (u_3.1 11), .ref (u_3.1 12), .ref (u_3.1 13), .ref (u_3.1 14)])), ((u_3.1 1), .inr (4, [.ref (u_3.1 15), .int 0, .int 0, .int (-1), .int 0, .int 0, .int 0, .int 0, .int 0])), ((u_3.1 15), .inl (k 1, 600, .inl (fun _ => 0))), ((u_3.1 2), .inr (2, [.int 0, .int 0, .int 0, .int 0, .int 0, .int 0, .int 0, .int 0, .int 0, .ref (u_3.1 16), .ref (u_3.1 17), .ref (u_3.1 18), .ref (u_3.1 19), .ref (u_3.1 20), .ref (u_3.1 21), .ref (u_3.1 22), .ref (u_3.1 23), .ref (u_3.1 24), .ref (u_3.1 25)])), ((u_3.1 16), .inl (k 0, 12, .inl (fun _ => 0))), ((u_3.1 17), .inl (k 0, 12, .inl (fun _ => 0))), ((u_3.1 18), .inl (k 0, 12, .inl (fun _ => 0))), ((u_3.1 19), .inl (k 0, 12, .inl (fun _ => 0))), ((u_3.1 20), .inl (k 0, 12, .inl (fun _ => 0))), ((u_3.1 21), .inl (k 0, 12, .inl (fun _ => 0))), ((u_3.1 22), .inl (k 0, 4, .inl (fun _ => 0))), ((u_3.1 23), .inl (k 0, 42, .inl (fun _ => 0))), ((u_3.1 24), .inl (k 0, 42, .inl (fun _ => 0))), ((u_3.1 25), .inl (k 0, 42, .inl (fun _ => 0))), ((u_3.1 3), .inr (2, [.int 0, .int 0, .int 0, .int 0, .int 0, .int 0, .int 0, .int 0, .int 0, .ref (u_3.1 26), .ref (u_3.1 27), .ref (u_3.1 28), .ref (u_3.1 29), .ref (u_3.1 30), .ref (u_3.1 31), .ref (u_3.1 32), .ref (u_3.1 33), .ref (u_3.1 34), .ref (u_3.1 35)])), ((u_3.1 26), .inl (k 0, 12, .inl (fun _ => 0))), ((u_3.1 27), .inl (k 0, 12, .inl (fun _ => 0))), ((u_3.1 28), .inl (k 0, 12, .inl (fun _ => 0))), ((u_3.1 29), .inl (k 0, 12, .inl (fun _ => 0))), ((u_3.1 30), .inl (k 0, 12, .inl (fun _ => 0))), ((u_3.1 31), .inl (k 0, 12, .inl (fun _ => 0))), ((u_3.1 32), .inl (k 0, 4, .inl (fun _ => 0))), ((u_3.1 33), .inl (k 0, 42, .inl (fun _ => 0))), ((u_3.1 34), .inl (k 0, 42, .inl (fun _ => 0))), ((u_3.1 35), .inl (k 0, 42, .inl (fun _ => 0))), ((u_3.1 4), .inr (3, [.ref (u_3.1 69), .ref (u_3.1 70), .ref (u_3.1 71)])), ((u_3.1 69), .inl (k 0, 17, .inl (u_3.2.2.2.2.2.2.1 0))), ((u_3.1 70), .inl (k 0, 17, .inl (u_3.2.2.2.2.2.2.1 1))), ((u_3.1 71), .inl (k 0, 17, .inl (u_3.2.2.2.2.2.2.1 2))), ((u_3.1 5), .inr (1, [.ref (u_3.1 3), .ref (u_3.1 4), .int (u_3.2.2.2.2.1 0), .int (u_3.2.2.2.2.1 1), .int (u_3.2.2.2.2.1 2), .int (u_3.2.2.2.2.1 3), .int (u_3.2.2.2.2.1 4), .ref (u_3.1 72)])), ((u_3.1 72), .inl (k 0, 17, .inl (u_3.2.2.2.2.2.2.1 3))), ((u_3.1 6), .inr (1, [.ref (u_3.1 3), .ref (u_3.1 4), .int 0, .int 0, .int 0, .int 0, .int 0, .ref (u_3.1 73)])), ((u_3.1 73), .inl (k 0, 17, .inl (fun _ => 0))), ((u_3.1 7), .inr (7, [.ref (u_3.1 3), .ref (u_3.1 4), .ref (u_3.1 5)])), ((u_3.1 8), .inr (8, [.ref (u_3.1 3), .ref (u_3.1 4), .ref (u_3.1 6), .ref (u_3.1 74), .ref (u_3.1 75), .ref (u_3.1 76)])), ((u_3.1 74), .inl (k 0, 3, .inl (u_3.2.2.2.2.2.2.1 4))), ((u_3.1 76), .inl (k 3, 3, .inl (u_3.2.2.2.2.2.2.1 5))), ((u_3.1 75), .inl (k 5, 3, .inr (.inr (.inr (.inr (fun i => if i < 3 then some (u_3.2.1 i) else none)))))), ((u_3.2.1 0), .inl (k 0, 256, .inl (fun _ => 0))), ((u_3.2.1 1), .inl (k 0, 256, .inl (fun _ => 0))), ((u_3.2.1 2), .inl (k 0, 256, .inl (fun _ => 0))), ((u_3.1 9), .inr (0, [.ref (u_3.1 3), .ref (u_3.1 6), .int (u_3.2.2.2.2.1 5), .int 0])), ((u_3.1 10), .inr (6, [.ref (u_3.1 77), .ref (u_3.1 78), .ref (u_3.1 79)])), ((u_3.1 77), .inl (k 6, 4, .inr (.inr (.inr (.inr (fun i => if i < 4 then some (u_3.2.2.1 i) else none)))))), ((u_3.2.2.1 0), .inl (k 2, 60, .inr (.inl (fun _ => 0)))), ((u_3.2.2.1 1), .inl (k 2, 60, .inr (.inl (fun _ => 0)))), ((u_3.2.2.1 2), .inl (k 2, 60, .inr (.inl (fun _ => 0)))), ((u_3.2.2.1 3), .inl (k 2, 60, .inr (.inl (fun _ => 0)))), ((u_3.1 78), .inl (k 0, 4, .inl (fun _ => 0))), ((u_3.1 79), .inl (k 0, 4, .inl m1)), ((u_3.1 11), .inr (5, [.ref (u_3.1 3), .ref (u_3.1 10), .ref (u_3.1 6), .ref (u_3.1 80), .int 0, .int 0, .int 0])), ((u_3.1 80), .inl (k 5, 12, .inr (.inr (.inr (.inr (fun i => if i < 12 then some (u_3.2.2.2.1 i) else none)))))), ((u_3.2.2.2.1 0), .inl (k 0, 17, .inl (fun _ => 0))), ((u_3.2.2.2.1 1), .inl (k 0, 17, .inl (fun _ => 0))), ((u_3.2.2.2.1 2), .inl (k 0, 17, .inl (fun _ => 0))), ((u_3.2.2.2.1 3), .inl (k 0, 17, .inl (fun _ => 0))), ((u_3.2.2.2.1 4), .inl (k 0, 17, .inl (fun _ => 0))), ((u_3.2.2.2.1 5), .inl (k 0, 17, .inl (fun _ => 0))), ((u_3.2.2.2.1 6), .inl (k 0, 17, .inl (fun _ => 0))), ((u_3.2.2.2.1 7), .inl (k 0, 17, .inl (fun _ => 0))), ((u_3.2.2.2.1 8), .inl (k 0, 17, .inl (fun _ => 0))), ((u_3.2.2.2.1 9), .inl (k 0, 17, .inl (fun _ => 0))), ((u_3.2.2.2.1 10), .inl (k 0, 17, .inl (fun _ => 0))), ((u_3.2.2.2.1 11), .inl (k 0, 17, .inl (fun _ => 0))), ((u_3.1 12), .inr (9, [.ref (u_3.1 3), .ref (u_3.1 5), .ref (u_3.1 6), .ref (u_3.1 81), .ref (u_3.1 82), .int 0, .ref (u_3.1 83), .ref (u_3.1 84), .int 0])), ((u_3.1 81), .inl (k 0, 256, .inl (fun _ => 0))), ((u_3.1 82), .inl (k 2, 256, .inr (.inl (fun _ => 0)))), ((u_3.1 83), .inl (k 0, 256, .inl (fun _ => 0))), ((u_3.1 84), .inl (k 2, 256, .inr (.inl (fun _ => 0)))), ((u_3.1 13), .inl (k 4, 3, .inr (.inr (.inr (.inr (va_up (va_up (va_up (fun _ => none) 0 (some (u_3.1 36))) 1 (some (u_3.1 47))) 2 (some (u_3.1 58)))))))), ((u_3.1 14), .inl (k 3, 3, .inl (fun _ => 0))), ((u_3.1 36), .inr (2, [.int 0, .int 0, .int 0, .int 0, .int 0, .int 0, .int 0, .int 0, .int 0, .ref (u_3.1 37), .ref (u_3.1 38), .ref (u_3.1 39), .ref (u_3.1 40), .ref (u_3.1 41), .ref (u_3.1 42), .ref (u_3.1 43), .ref (u_3.1 44), .ref (u_3.1 45), .ref (u_3.1 46)])), ((u_3.1 37), .inl (k 0, 12, .inl (fun _ => 0))), ((u_3.1 38), .inl (k 0, 12, .inl (fun _ => 0))), ((u_3.1 39), .inl (k 0, 12, .inl (fun _ => 0))), ((u_3.1 40), .inl (k 0, 12, .inl (fun _ => 0))), ((u_3.1 41), .inl (k 0, 12, .inl (fun _ => 0))), ((u_3.1 42), .inl (k 0, 12, .inl (fun _ => 0))), ((u_3.1 43), .inl (k 0, 4, .inl (fun _ => 0))), ((u_3.1 44), .inl (k 0, 42, .inl (fun _ => 0))), ((u_3.1 45), .inl (k 0, 42, .inl (fun _ => 0))), ((u_3.1 46), .inl (k 0, 42, .inl (fun _ => 0))), ((u_3.1 47), .inr (2, [.int 0, .int 0, .int 0, .int 0, .int 0, .int 0, .int 0, .int 0, .int 0, .ref (u_3.1 48), .ref (u_3.1 49), .ref (u_3.1 50), .ref (u_3.1 51), .ref (u_3.1 52), .ref (u_3.1 53), .ref (u_3.1 54), .ref (u_3.1 55), .ref (u_3.1 56), .ref (u_3.1 57)])), ((u_3.1 48), .inl (k 0, 12, .inl (fun _ => 0))), ((u_3.1 49), .inl (k 0, 12, .inl (fun _ => 0))), ((u_3.1 50), .inl (k 0, 12, .inl (fun _ => 0))), ((u_3.1 51), .inl (k 0, 12, .inl (fun _ => 0))), ((u_3.1 52), .inl (k 0, 12, .inl (fun _ => 0))), ((u_3.1 53), .inl (k 0, 12, .inl (fun _ => 0))), ((u_3.1 54), .inl (k 0, 4, .inl (fun _ => 0))), ((u_3.1 55), .inl (k 0, 42, .inl (fun _ => 0))), ((u_3.1 56), .inl (k 0, 42, .inl (fun _ => 0))), ((u_3.1 57), .inl (k 0, 42, .inl (fun _ => 0))), ((u_3.1 58), .inr (2, [.int 0, .int 0, .int 0, .int 0, .int 0, .int 0, .int 0, .int 0, .int 0, .ref (u_3.1 59), .ref (u_3.1 60), .ref (u_3.1 61), .ref (u_3.1 62), .ref (u_3.1 63), .ref (u_3.1 64), .ref (u_3.1 65), .ref (u_3.1 66), .ref (u_3.1 67), .ref (u_3.1 68)])), ((u_3.1 59), .inl (k 0, 12, .inl (fun _ => 0))), ((u_3.1 60), .inl (k 0, 12, .inl (fun _ => 0))), ((u_3.1 61), .inl (k 0, 12, .inl (fun _ => 0))), ((u_3.1 62), .inl (k 0, 12, .inl (fun _ => 0))), ((u_3.1 63), .inl (k 0, 12, .inl (fun _ => 0))), ((u_3.1 64), .inl (k 0, 12, .inl (fun _ => 0))), ((u_3.1 65), .inl (k 0, 4, .inl (fun _ => 0))), ((u_3.1 66), .inl (k 0, 42, .inl (fun _ => 0))), ((u_3.1 67), .inl (k 0, 42, .inl (fun _ => 0))), ((u_3.1 68), .inl (k 0, 42, .inl (fun _ => 0))), (q_4, .inr (11, [.int 0, .null, .null, .null, .null, .int 0, .null, .int 0, .int 0, .int 0, .int 0, .int 0, .int 0, .int 0, .null, .null, .null, .null, .null, .null, .null, .int 0, .int 0, .int 0, .int 0, .null, .null, .null, .int 0, .int 0, .int 0, .null, .null, .int 0, .null, .long 0, .long 0, .null, .int 0, .long 0, .long 0, .long 0, .null, .null, .null, .null]))]) S hK hP hD hS hA cfX11 lkL_10 (by decide +kernel) (Nat.le_of_ble_eq_true rfl) (Nat.le_of_ble_eq_true rfl) (fun _ => rfl) dL_law_8 (fun q_4 H hP hD hS => ?_)
  refine W.widen (k := 105) (n := 4185) (Nat.le_of_ble_eq_true rfl) (Nat.le_of_ble_eq_true rfl) ?_
  refine lv_dup hx hb dL_law_11 rfl ?_
  refine x_muIv (wr := [((u_3.1 0), .inr (10, [.ref (u_3.1 1), .ref (u_3.1 2), .ref (u_3.1 3), .ref (u_3.1 4), .ref (u_3.1 5), .ref (u_3.1 6), .ref (u_3.1 7), .ref (u_3.1 8), .ref (u_3.1 9), .ref (u_3.1 10), .ref (u_3.1 11), .ref (u_3.1 12), .ref (u_3.1 13), .ref (u_3.1 14)])), ((u_3.1 1), .inr (4, [.ref (u_3.1 15), .int 0, .int 0, .int (-1), .int 0, .int 0, .int 0, .int 0, .int 0])), ((u_3.1 15), .inl (k 1, 600, .inl (fun _ => 0))), ((u_3.1 2), .inr (2, [.int 0, .int 0, .int 0, .int 0, .int 0, .int 0, .int 0, .int 0, .int 0, .ref (u_3.1 16), .ref (u_3.1 17), .ref (u_3.1 18), .ref (u_3.1 19), .ref (u_3.1 20), .ref (u_3.1 21), .ref (u_3.1 22), .ref (u_3.1 23), .ref (u_3.1 24), .ref (u_3.1 25)])), ((u_3.1 16), .inl (k 0, 12, .inl (fun _ => 0))), ((u_3.1 17), .inl (k 0, 12, .inl (fun _ => 0))), ((u_3.1 18), .inl (k 0, 12, .inl (fun _ => 0))), ((u_3.1 19), .inl (k 0, 12, .inl (fun _ => 0))), ((u_3.1 20), .inl (k 0, 12, .inl (fun _ => 0))), ((u_3.1 21), .inl (k 0, 12, .inl (fun _ => 0))), ((u_3.1 22), .inl (k 0, 4, .inl (fun _ => 0))), ((u_3.1 23), .inl (k 0, 42, .inl (fun _ => 0))), ((u_3.1 24), .inl (k 0, 42, .inl (fun _ => 0))), ((u_3.1 25), .inl (k 0, 42, .inl (fun _ => 0))), ((u_3.1 3), .inr (2, [.int 0, .int 0, .int 0, .int 0, .int 0, .int 0, .int 0, .int 0, .int 0, .ref (u_3.1 26), .ref (u_3.1 27), .ref (u_3.1 28), .ref (u_3.1 29), .ref (u_3.1 30), .ref (u_3.1 31), .ref (u_3.1 32), .ref (u_3.1 33), .ref (u_3.1 34), .ref (u_3.1 35)])), ((u_3.1 26), .inl (k 0, 12, .inl (fun _ => 0))), ((u_3.1 27), .inl (k 0, 12, .inl (fun _ => 0))), ((u_3.1 28), .inl (k 0, 12, .inl (fun _ => 0))), ((u_3.1 29), .inl (k 0, 12, .inl (fun _ => 0))), ((u_3.1 30), .inl (k 0, 12, .inl (fun _ => 0))), ((u_3.1 31), .inl (k 0, 12, .inl (fun _ => 0))), ((u_3.1 32), .inl (k 0, 4, .inl (fun _ => 0))), ((u_3.1 33), .inl (k 0, 42, .inl (fun _ => 0))), ((u_3.1 34), .inl (k 0, 42, .inl (fun _ => 0))), ((u_3.1 35), .inl (k 0, 42, .inl (fun _ => 0))), ((u_3.1 4), .inr (3, [.ref (u_3.1 69), .ref (u_3.1 70), .ref (u_3.1 71)])), ((u_3.1 69), .inl (k 0, 17, .inl (u_3.2.2.2.2.2.2.1 0))), ((u_3.1 70), .inl (k 0, 17, .inl (u_3.2.2.2.2.2.2.1 1))), ((u_3.1 71), .inl (k 0, 17, .inl (u_3.2.2.2.2.2.2.1 2))), ((u_3.1 5), .inr (1, [.ref (u_3.1 3), .ref (u_3.1 4), .int (u_3.2.2.2.2.1 0), .int (u_3.2.2.2.2.1 1), .int (u_3.2.2.2.2.1 2), .int (u_3.2.2.2.2.1 3), .int (u_3.2.2.2.2.1 4), .ref (u_3.1 72)])), ((u_3.1 72), .inl (k 0, 17, .inl (u_3.2.2.2.2.2.2.1 3))), ((u_3.1 6), .inr (1, [.ref (u_3.1 3), .ref (u_3.1 4), .int 0, .int 0, .int 0, .int 0, .int 0, .ref (u_3.1 73)])), ((u_3.1 73), .inl (k 0, 17, .inl (fun _ => 0))), ((u_3.1 7), .inr (7, [.ref (u_3.1 3), .ref (u_3.1 4), .ref (u_3.1 5)])), ((u_3.1 8), .inr (8, [.ref (u_3.1 3), .ref (u_3.1 4), .ref (u_3.1 6), .ref (u_3.1 74), .ref (u_3.1 75), .ref (u_3.1 76)])), ((u_3.1 74), .inl (k 0, 3, .inl (u_3.2.2.2.2.2.2.1 4))), ((u_3.1 76), .inl (k 3, 3, .inl (u_3.2.2.2.2.2.2.1 5))), ((u_3.1 75), .inl (k 5, 3, .inr (.inr (.inr (.inr (fun i => if i < 3 then some (u_3.2.1 i) else none)))))), ((u_3.2.1 0), .inl (k 0, 256, .inl (fun _ => 0))), ((u_3.2.1 1), .inl (k 0, 256, .inl (fun _ => 0))), ((u_3.2.1 2), .inl (k 0, 256, .inl (fun _ => 0))), ((u_3.1 9), .inr (0, [.ref (u_3.1 3), .ref (u_3.1 6), .int (u_3.2.2.2.2.1 5), .int 0])), ((u_3.1 10), .inr (6, [.ref (u_3.1 77), .ref (u_3.1 78), .ref (u_3.1 79)])), ((u_3.1 77), .inl (k 6, 4, .inr (.inr (.inr (.inr (fun i => if i < 4 then some (u_3.2.2.1 i) else none)))))), ((u_3.2.2.1 0), .inl (k 2, 60, .inr (.inl (fun _ => 0)))), ((u_3.2.2.1 1), .inl (k 2, 60, .inr (.inl (fun _ => 0)))), ((u_3.2.2.1 2), .inl (k 2, 60, .inr (.inl (fun _ => 0)))), ((u_3.2.2.1 3), .inl (k 2, 60, .inr (.inl (fun _ => 0)))), ((u_3.1 78), .inl (k 0, 4, .inl (fun _ => 0))), ((u_3.1 79), .inl (k 0, 4, .inl m1)), ((u_3.1 11), .inr (5, [.ref (u_3.1 3), .ref (u_3.1 10), .ref (u_3.1 6), .ref (u_3.1 80), .int 0, .int 0, .int 0])), ((u_3.1 80), .inl (k 5, 12, .inr (.inr (.inr (.inr (fun i => if i < 12 then some (u_3.2.2.2.1 i) else none)))))), ((u_3.2.2.2.1 0), .inl (k 0, 17, .inl (fun _ => 0))), ((u_3.2.2.2.1 1), .inl (k 0, 17, .inl (fun _ => 0))), ((u_3.2.2.2.1 2), .inl (k 0, 17, .inl (fun _ => 0))), ((u_3.2.2.2.1 3), .inl (k 0, 17, .inl (fun _ => 0))), ((u_3.2.2.2.1 4), .inl (k 0, 17, .inl (fun _ => 0))), ((u_3.2.2.2.1 5), .inl (k 0, 17, .inl (fun _ => 0))), ((u_3.2.2.2.1 6), .inl (k 0, 17, .inl (fun _ => 0))), ((u_3.2.2.2.1 7), .inl (k 0, 17, .inl (fun _ => 0))), ((u_3.2.2.2.1 8), .inl (k 0, 17, .inl (fun _ => 0))), ((u_3.2.2.2.1 9), .inl (k 0, 17, .inl (fun _ => 0))), ((u_3.2.2.2.1 10), .inl (k 0, 17, .inl (fun _ => 0))), ((u_3.2.2.2.1 11), .inl (k 0, 17, .inl (fun _ => 0))), ((u_3.1 12), .inr (9, [.ref (u_3.1 3), .ref (u_3.1 5), .ref (u_3.1 6), .ref (u_3.1 81), .ref (u_3.1 82), .int 0, .ref (u_3.1 83), .ref (u_3.1 84), .int 0])), ((u_3.1 81), .inl (k 0, 256, .inl (fun _ => 0))), ((u_3.1 82), .inl (k 2, 256, .inr (.inl (fun _ => 0)))), ((u_3.1 83), .inl (k 0, 256, .inl (fun _ => 0))), ((u_3.1 84), .inl (k 2, 256, .inr (.inl (fun _ => 0)))), ((u_3.1 13), .inl (k 4, 3, .inr (.inr (.inr (.inr (va_up (va_up (va_up (fun _ => none) 0 (some (u_3.1 36))) 1 (some (u_3.1 47))) 2 (some (u_3.1 58)))))))), ((u_3.1 14), .inl (k 3, 3, .inl (fun _ => 0))), ((u_3.1 36), .inr (2, [.int 0, .int 0, .int 0, .int 0, .int 0, .int 0, .int 0, .int 0, .int 0, .ref (u_3.1 37), .ref (u_3.1 38), .ref (u_3.1 39), .ref (u_3.1 40), .ref (u_3.1 41), .ref (u_3.1 42), .ref (u_3.1 43), .ref (u_3.1 44), .ref (u_3.1 45), .ref (u_3.1 46)])), ((u_3.1 37), .inl (k 0, 12, .inl (fun _ => 0))), ((u_3.1 38), .inl (k 0, 12, .inl (fun _ => 0))), ((u_3.1 39), .inl (k 0, 12, .inl (fun _ => 0))), ((u_3.1 40), .inl (k 0, 12, .inl (fun _ => 0))), ((u_3.1 41), .inl (k 0, 12, .inl (fun _ => 0))), ((u_3.1 42), .inl (k 0, 12, .inl (fun _ => 0))), ((u_3.1 43), .inl (k 0, 4, .inl (fun _ => 0))), ((u_3.1 44), .inl (k 0, 42, .inl (fun _ => 0))), ((u_3.1 45), .inl (k 0, 42, .inl (fun _ => 0))), ((u_3.1 46), .inl (k 0, 42, .inl (fun _ => 0))), ((u_3.1 47), .inr (2, [.int 0, .int 0, .int 0, .int 0, .int 0, .int 0, .int 0, .int 0, .int 0, .ref (u_3.1 48), .ref (u_3.1 49), .ref (u_3.1 50), .ref (u_3.1 51), .ref (u_3.1 52), .ref (u_3.1 53), .ref (u_3.1 54), .ref (u_3.1 55), .ref (u_3.1 56), .ref (u_3.1 57)])), ((u_3.1 48), .inl (k 0, 12, .inl (fun _ => 0))), ((u_3.1 49), .inl (k 0, 12, .inl (fun _ => 0))), ((u_3.1 50), .inl (k 0, 12, .inl (fun _ => 0))), ((u_3.1 51), .inl (k 0, 12, .inl (fun _ => 0))), ((u_3.1 52), .inl (k 0, 12, .inl (fun _ => 0))), ((u_3.1 53), .inl (k 0, 12, .inl (fun _ => 0))), ((u_3.1 54), .inl (k 0, 4, .inl (fun _ => 0))), ((u_3.1 55), .inl (k 0, 42, .inl (fun _ => 0))), ((u_3.1 56), .inl (k 0, 42, .inl (fun _ => 0))), ((u_3.1 57), .inl (k 0, 42, .inl (fun _ => 0))), ((u_3.1 58), .inr (2, [.int 0, .int 0, .int 0, .int 0, .int 0, .int 0, .int 0, .int 0, .int 0, .ref (u_3.1 59), .ref (u_3.1 60), .ref (u_3.1 61), .ref (u_3.1 62), .ref (u_3.1 63), .ref (u_3.1 64), .ref (u_3.1 65), .ref (u_3.1 66), .ref (u_3.1 67), .ref (u_3.1 68)])), ((u_3.1 59), .inl (k 0, 12, .inl (fun _ => 0))), ((u_3.1 60), .inl (k 0, 12, .inl (fun _ => 0))), ((u_3.1 61), .inl (k 0, 12, .inl (fun _ => 0))), ((u_3.1 62), .inl (k 0, 12, .inl (fun _ => 0))), ((u_3.1 63), .inl (k 0, 12, .inl (fun _ => 0))), ((u_3.1 64), .inl (k 0, 12, .inl (fun _ => 0))), ((u_3.1 65), .inl (k 0, 4, .inl (fun _ => 0))), ((u_3.1 66), .inl (k 0, 42, .inl (fun _ => 0))), ((u_3.1 67), .inl (k 0, 42, .inl (fun _ => 0))), ((u_3.1 68), .inl (k 0, 42, .inl (fun _ => 0)))]) (As := []) S hK hP hD hZ hS hA hl mwX11_init lkL_12 (ctX11_init l D k z q_4 ) [104] [0, 1, 2, 3, 4, 5, 6, 7, 8, 9, 10, 11, 12, 13, 14, 15, 16, 17, 18, 19, 20, 21, 22, 23, 24, 25, 26, 27, 28, 29, 30, 31, 32, 33, 34, 35, 36, 37, 38, 39, 40, 41, 42, 43, 44, 45, 46, 47, 48, 49, 50, 51, 52, 53, 54, 55, 56, 57, 58, 59, 60, 61, 62, 63, 64, 65, 66, 67, 68, 69, 70, 71, 72, 73, 74, 75, 76, 77, 78, 79, 80, 81, 82, 83, 84, 85, 86, 87, 88, 89, 90, 91, 92, 93, 94, 95, 96, 97, 98, 99, 100, 101, 102, 103] rfl rfl (by decide) (by decide) (by decide) rfl rfl ⟨Nat.le_of_ble_eq_true rfl, Nat.le_of_ble_eq_true rfl, Nat.le_of_ble_eq_true rfl⟩ dL_law_12 ⟨Nat.le_of_ble_eq_true rfl, Nat.le_of_ble_eq_true rfl⟩ (fun u_6 H locs hr_5 hP hD hS => ?_)
  have hP : va_P D vwCl [((u_3.1 0), .inr (10, [.ref (u_3.1 1), .ref (u_3.1 2), .ref (u_3.1 3), .ref (u_3.1 4), .ref (u_3.1 5), .ref (u_3.1 6), .ref (u_3.1 7), .ref (u_3.1 8), .ref (u_3.1 9), .ref (u_3.1 10), .ref (u_3.1 11), .ref (u_3.1 12), .ref (u_3.1 13), .ref (u_3.1 14)])), ((u_3.1 1), .inr (4, [.ref (u_3.1 15), .int 0, .int 0, .int (-1), .int 0, .int 0, .int 0, .int 0, .int 0])), ((u_3.1 15), .inl (k 1, 600, .inl (fun _ => 0))), ((u_3.1 2), .inr (2, [.int 0, .int 0, .int 0, .int 0, .int 0, .int 0, .int 0, .int 0, .int 0, .ref (u_3.1 16), .ref (u_3.1 17), .ref (u_3.1 18), .ref (u_3.1 19), .ref (u_3.1 20), .ref (u_3.1 21), .ref (u_3.1 22), .ref (u_3.1 23), .ref (u_3.1 24), .ref (u_3.1 25)])), ((u_3.1 16), .inl (k 0, 12, .inl (fun _ => 0))), ((u_3.1 17), .inl (k 0, 12, .inl (fun _ => 0))), ((u_3.1 18), .inl (k 0, 12, .inl (fun _ => 0))), ((u_3.1 19), .inl (k 0, 12, .inl (fun _ => 0))), ((u_3.1 20), .inl (k 0, 12, .inl (fun _ => 0))), ((u_3.1 21), .inl (k 0, 12, .inl (fun _ => 0))), ((u_3.1 22), .inl (k 0, 4, .inl (fun _ => 0))), ((u_3.1 23), .inl (k 0, 42, .inl (fun _ => 0))), ((u_3.1 24), .inl (k 0, 42, .inl (fun _ => 0))), ((u_3.1 25), .inl (k 0, 42, .inl (fun _ => 0))), ((u_3.1 3), .inr (2, [.int 0, .int 0, .int 0, .int 0, .int 0, .int 0, .int 0, .int 0, .int 0, .ref (u_3.1 26), .ref (u_3.1 27), .ref (u_3.1 28), .ref (u_3.1 29), .ref (u_3.1 30), .ref (u_3.1 31), .ref (u_3.1 32), .ref (u_3.1 33), .ref (u_3.1 34), .ref (u_3.1 35)])), ((u_3.1 26), .inl (k 0, 12, .inl (fun _ => 0))), ((u_3.1 27), .inl (k 0, 12, .inl (fun _ => 0))), ((u_3.1 28), .inl (k 0, 12, .inl (fun _ => 0))), ((u_3.1 29), .inl (k 0, 12, .inl (fun _ => 0))), ((u_3.1 30), .inl (k 0, 12, .inl (fun _ => 0))), ((u_3.1 31), .inl (k 0, 12, .inl (fun _ => 0))), ((u_3.1 32), .inl (k 0, 4, .inl (fun _ => 0))), ((u_3.1 33), .inl (k 0, 42, .inl (fun _ => 0))), ((u_3.1 34), .inl (k 0, 42, .inl (fun _ => 0))), ((u_3.1 35), .inl (k 0, 42, .inl (fun _ => 0))), ((u_3.1 4), .inr (3, [.ref (u_3.1 69), .ref (u_3.1 70), .ref (u_3.1 71)])), ((u_3.1 69), .inl (k 0, 17, .inl (u_3.2.2.2.2.2.2.1 0))), ((u_3.1 70), .inl (k 0, 17, .inl (u_3.2.2.2.2.2.2.1 1))), ((u_3.1 71), .inl (k 0, 17, .inl (u_3.2.2.2.2.2.2.1 2))), ((u_3.1 5), .inr (1, [.ref (u_3.1 3), .ref (u_3.1 4), .int (u_3.2.2.2.2.1 0), .int (u_3.2.2.2.2.1 1), .int (u_3.2.2.2.2.1 2), .int (u_3.2.2.2.2.1 3), .int (u_3.2.2.2.2.1 4), .ref (u_3.1 72)])), ((u_3.1 72), .inl (k 0, 17, .inl (u_3.2.2.2.2.2.2.1 3))), ((u_3.1 6), .inr (1, [.ref (u_3.1 3), .ref (u_3.1 4), .int 0, .int 0, .int 0, .int 0, .int 0, .ref (u_3.1 73)])), ((u_3.1 73), .inl (k 0, 17, .inl (fun _ => 0))), ((u_3.1 7), .inr (7, [.ref (u_3.1 3), .ref (u_3.1 4), .ref (u_3.1 5)])), ((u_3.1 8), .inr (8, [.ref (u_3.1 3), .ref (u_3.1 4), .ref (u_3.1 6), .ref (u_3.1 74), .ref (u_3.1 75), .ref (u_3.1 76)])), ((u_3.1 74), .inl (k 0, 3, .inl (u_3.2.2.2.2.2.2.1 4))), ((u_3.1 76), .inl (k 3, 3, .inl (u_3.2.2.2.2.2.2.1 5))), ((u_3.1 75), .inl (k 5, 3, .inr (.inr (.inr (.inr (fun i => if i < 3 then some (u_3.2.1 i) else none)))))), ((u_3.2.1 0), .inl (k 0, 256, .inl (fun _ => 0))), ((u_3.2.1 1), .inl (k 0, 256, .inl (fun _ => 0))), ((u_3.2.1 2), .inl (k 0, 256, .inl (fun _ => 0))), ((u_3.1 9), .inr (0, [.ref (u_3.1 3), .ref (u_3.1 6), .int (u_3.2.2.2.2.1 5), .int 0])), ((u_3.1 10), .inr (6, [.ref (u_3.1 77), .ref (u_3.1 78), .ref (u_3.1 79)])), ((u_3.1 77), .inl (k 6, 4, .inr (.inr (.inr (.inr (fun i => if i < 4 then some (u_3.2.2.1 i) else none)))))), ((u_3.2.2.1 0), .inl (k 2, 60, .inr (.inl (fun _ => 0)))), ((u_3.2.2.1 1), .inl (k 2, 60, .inr (.inl (fun _ => 0)))), ((u_3.2.2.1 2), .inl (k 2, 60, .inr (.inl (fun _ => 0)))), ((u_3.2.2.1 3), .inl (k 2, 60, .inr (.inl (fun _ => 0)))), ((u_3.1 78), .inl (k 0, 4, .inl (fun _ => 0))), ((u_3.1 79), .inl (k 0, 4, .inl m1)), ((u_3.1 11), .inr (5, [.ref (u_3.1 3), .ref (u_3.1 10), .ref (u_3.1 6), .ref (u_3.1 80), .int 0, .int 0, .int 0])), ((u_3.1 80), .inl (k 5, 12, .inr (.inr (.inr (.inr (fun i => if i < 12 then some (u_3.2.2.2.1 i) else none)))))), ((u_3.2.2.2.1 0), .inl (k 0, 17, .inl (fun _ => 0))), ((u_3.2.2.2.1 1), .inl (k 0, 17, .inl (fun _ => 0))), ((u_3.2.2.2.1 2), .inl (k 0, 17, .inl (fun _ => 0))), ((u_3.2.2.2.1 3), .inl (k 0, 17, .inl (fun _ => 0))), ((u_3.2.2.2.1 4), .inl (k 0, 17, .inl (fun _ => 0))), ((u_3.2.2.2.1 5), .inl (k 0, 17, .inl (fun _ => 0))), ((u_3.2.2.2.1 6), .inl (k 0, 17, .inl (fun _ => 0))), ((u_3.2.2.2.1 7), .inl (k 0, 17, .inl (fun _ => 0))), ((u_3.2.2.2.1 8), .inl (k 0, 17, .inl (fun _ => 0))), ((u_3.2.2.2.1 9), .inl (k 0, 17, .inl (fun _ => 0))), ((u_3.2.2.2.1 10), .inl (k 0, 17, .inl (fun _ => 0))), ((u_3.2.2.2.1 11), .inl (k 0, 17, .inl (fun _ => 0))), ((u_3.1 12), .inr (9, [.ref (u_3.1 3), .ref (u_3.1 5), .ref (u_3.1 6), .ref (u_3.1 81), .ref (u_3.1 82), .int 0, .ref (u_3.1 83), .ref (u_3.1 84), .int 0])), ((u_3.1 81), .inl (k 0, 256, .inl (fun _ => 0))), ((u_3.1 82), .inl (k 2, 256, .inr (.inl (fun _ => 0)))), ((u_3.1 83), .inl (k 0, 256, .inl (fun _ => 0))), ((u_3.1 84), .inl (k 2, 256, .inr (.inl (fun _ => 0)))), ((u_3.1 13), .inl (k 4, 3, .inr (.inr (.inr (.inr (va_up (va_up (va_up (fun _ => none) 0 (some (u_3.1 36))) 1 (some (u_3.1 47))) 2 (some (u_3.1 58)))))))), ((u_3.1 14), .inl (k 3, 3, .inl (fun _ => 0))), ((u_3.1 36), .inr (2, [.int 0, .int 0, .int 0, .int 0, .int 0, .int 0, .int 0, .int 0, .int 0, .ref (u_3.1 37), .ref (u_3.1 38), .ref (u_3.1 39), .ref (u_3.1 40), .ref (u_3.1 41), .ref (u_3.1 42), .ref (u_3.1 43), .ref (u_3.1 44), .ref (u_3.1 45), .ref (u_3.1 46)])), ((u_3.1 37), .inl (k 0, 12, .inl (fun _ => 0))), ((u_3.1 38), .inl (k 0, 12, .inl (fun _ => 0))), ((u_3.1 39), .inl (k 0, 12, .inl (fun _ => 0))), ((u_3.1 40), .inl (k 0, 12, .inl (fun _ => 0))), ((u_3.1 41), .inl (k 0, 12, .inl (fun _ => 0))), ((u_3.1 42), .inl (k 0, 12, .inl (fun _ => 0))), ((u_3.1 43), .inl (k 0, 4, .inl (fun _ => 0))), ((u_3.1 44), .inl (k 0, 42, .inl (fun _ => 0))), ((u_3.1 45), .inl (k 0, 42, .inl (fun _ => 0))), ((u_3.1 46), .inl (k 0, 42, .inl (fun _ => 0))), ((u_3.1 47), .inr (2, [.int 0, .int 0, .int 0, .int 0, .int 0, .int 0, .int 0, .int 0, .int 0, .ref (u_3.1 48), .ref (u_3.1 49), .ref (u_3.1 50), .ref (u_3.1 51), .ref (u_3.1 52), .ref (u_3.1 53), .ref (u_3.1 54), .ref (u_3.1 55), .ref (u_3.1 56), .ref (u_3.1 57)])), ((u_3.1 48), .inl (k 0, 12, .inl (fun _ => 0))), ((u_3.1 49), .inl (k 0, 12, .inl (fun _ => 0))), ((u_3.1 50), .inl (k 0, 12, .inl (fun _ => 0))), ((u_3.1 51), .inl (k 0, 12, .inl (fun _ => 0))), ((u_3.1 52), .inl (k 0, 12, .inl (fun _ => 0))), ((u_3.1 53), .inl (k 0, 12, .inl (fun _ => 0))), ((u_3.1 54), .inl (k 0, 4, .inl (fun _ => 0))), ((u_3.1 55), .inl (k 0, 42, .inl (fun _ => 0))), ((u_3.1 56), .inl (k 0, 42, .inl (fun _ => 0))), ((u_3.1 57), .inl (k 0, 42, .inl (fun _ => 0))), ((u_3.1 58), .inr (2, [.int 0, .int 0, .int 0, .int 0, .int 0, .int 0, .int 0, .int 0, .int 0, .ref (u_3.1 59), .ref (u_3.1 60), .ref (u_3.1 61), .ref (u_3.1 62), .ref (u_3.1 63), .ref (u_3.1 64), .ref (u_3.1 65), .ref (u_3.1 66), .ref (u_3.1 67), .ref (u_3.1 68)])), ((u_3.1 59), .inl (k 0, 12, .inl (fun _ => 0))), ((u_3.1 60), .inl (k 0, 12, .inl (fun _ => 0))), ((u_3.1 61), .inl (k 0, 12, .inl (fun _ => 0))), ((u_3.1 62), .inl (k 0, 12, .inl (fun _ => 0))), ((u_3.1 63), .inl (k 0, 12, .inl (fun _ => 0))), ((u_3.1 64), .inl (k 0, 12, .inl (fun _ => 0))), ((u_3.1 65), .inl (k 0, 4, .inl (fun _ => 0))), ((u_3.1 66), .inl (k 0, 42, .inl (fun _ => 0))), ((u_3.1 67), .inl (k 0, 42, .inl (fun _ => 0))), ((u_3.1 68), .inl (k 0, 42, .inl (fun _ => 0))), ((u_6 0), .inr (11, [.int 0, .ref (u_6 1), .ref (u_6 2), .ref (u_6 3), .ref (u_6 4), .int 0, .ref (u_6 5), .int 0, .int 0, .int 0, .int 0, .int 0, .int 0, .int (-1), .ref (u_6 6), .ref (u_6 7), .ref (u_6 8), .ref (u_6 9), .ref (u_6 10), .ref (u_6 11), .ref (u_6 12), .int 0, .int 0, .int 0, .int 0, .ref (u_6 13), .ref (u_6 14), .ref (u_6 15), .int 0, .int 0, .int 0, .ref (u_6 16), .ref (u_6 17), .int 0, .ref (u_6 18), .long 0, .long 0, .ref (u_6 19), .int 0, .long 0, .long 0, .long 0, .ref (u_6 20), .ref (u_6 21), .ref (u_6 22), .ref (u_6 23)])), ((u_6 1), .inl (k 0, 99, .inl (fun _ => 0))), ((u_6 2), .inl (k 0, 297, .inl (fun _ => 0))), ((u_6 3), .inl (k 3, 3, .inl (fun _ => 0))), ((u_6 4), .inl (k 1, 600, .inl (fun _ => 0))), ((u_6 5), .inl (k 0, 5, .inl (fun _ => 0))), ((u_6 6), .inl (k 0, 99, .inl (fun _ => 0))), ((u_6 7), .inl (k 0, 12, .inl (fun _ => 0))), ((u_6 8), .inl (k 0, 12, .inl (fun _ => 0))), ((u_6 9), .inl (k 0, 4, .inl (fun _ => 0))), ((u_6 10), .inl (k 0, 12, .inl (fun _ => 0))), ((u_6 11), .inl (k 0, 14, .inl (fun _ => 0))), ((u_6 12), .inl (k 0, 14, .inl (fun _ => 0))), ((u_6 13), .inl (k 0, 17, .inl (fun _ => 0))), ((u_6 14), .inl (k 0, 17, .inl (fun _ => 0))), ((u_6 15), .inl (k 0, 17, .inl (fun _ => 0))), ((u_6 16), .inl (k 0, 4000, .inl (fun _ => 0))), ((u_6 17), .inl (k 0, 4000, .inl (fun _ => 0))), ((u_6 18), .inl (k 0, 256, .inl (fun _ => 0))), ((u_6 19), .inl (k 0, 2448, .inl (fun _ => 0))), ((u_6 20), .inl (k 0, 4, .inl m1)), ((u_6 21), .inl (k 0, 4, .inl (fun _ => 0))), ((u_6 22), .inl (k 2, 240, .inr (.inl (fun _ => 0)))), ((u_6 23), .inl (k 2, 60, .inr (.inl (fun _ => 0))))] H := hP
  have hD : va_D (fun q : Nat => s.heap.size ≤ q) [((u_3.1 0), .inr (10, [.ref (u_3.1 1), .ref (u_3.1 2), .ref (u_3.1 3), .ref (u_3.1 4), .ref (u_3.1 5), .ref (u_3.1 6), .ref (u_3.1 7), .ref (u_3.1 8), .ref (u_3.1 9), .ref (u_3.1 10), .ref (u_3.1 11), .ref (u_3.1 12), .ref (u_3.1 13), .ref (u_3.1 14)])), ((u_3.1 1), .inr (4, [.ref (u_3.1 15), .int 0, .int 0, .int (-1), .int 0, .int 0, .int 0, .int 0, .int 0])), ((u_3.1 15), .inl (k 1, 600, .inl (fun _ => 0))), ((u_3.1 2), .inr (2, [.int 0, .int 0, .int 0, .int 0, .int 0, .int 0, .int 0, .int 0, .int 0, .ref (u_3.1 16), .ref (u_3.1 17), .ref (u_3.1 18), .ref (u_3.1 19), .ref (u_3.1 20), .ref (u_3.1 21), .ref (u_3.1 22), .ref (u_3.1 23), .ref (u_3.1 24), .ref (u_3.1 25)])), ((u_3.1 16), .inl (k 0, 12, .inl (fun _ => 0))), ((u_3.1 17), .inl (k 0, 12, .inl (fun _ => 0))), ((u_3.1 18), .inl (k 0, 12, .inl (fun _ => 0))), ((u_3.1 19), .inl (k 0, 12, .inl (fun _ => 0))), ((u_3.1 20), .inl (k 0, 12, .inl (fun _ => 0))), ((u_3.1 21), .inl (k 0, 12, .inl (fun _ => 0))), ((u_3.1 22), .inl (k 0, 4, .inl (fun _ => 0))), ((u_3.1 23), .inl (k 0, 42, .inl (fun _ => 0))), ((u_3.1 24), .inl (k 0, 42, .inl (fun _ => 0))), ((u_3.1 25), .inl (k 0, 42, .inl (fun _ => 0))), ((u_3.1 3), .inr (2, [.int 0, .int 0, .int 0, .int 0, .int 0, .int 0, .int 0, .int 0, .int 0, .ref (u_3.1 26), .ref (u_3.1 27), .ref (u_3.1 28), .ref (u_3.1 29), .ref (u_3.1 30), .ref (u_3.1 31), .ref (u_3.1 32), .ref (u_3.1 33), .ref (u_3.1 34), .ref (u_3.1 35)])), ((u_3.1 26), .inl (k 0, 12, .inl (fun _ => 0))), ((u_3.1 27), .inl (k 0, 12, .inl (fun _ => 0))), ((u_3.1 28), .inl (k 0, 12, .inl (fun _ => 0))), ((u_3.1 29), .inl (k 0, 12, .inl (fun _ => 0))), ((u_3.1 30), .inl (k 0, 12, .inl (fun _ => 0))), ((u_3.1 31), .inl (k 0, 12, .inl (fun _ => 0))), ((u_3.1 32), .inl (k 0, 4, .inl (fun _ => 0))), ((u_3.1 33), .inl (k 0, 42, .inl (fun _ => 0))), ((u_3.1 34), .inl (k 0, 42, .inl (fun _ => 0))), ((u_3.1 35), .inl (k 0, 42, .inl (fun _ => 0))), ((u_3.1 4), .inr (3, [.ref (u_3.1 69), .ref (u_3.1 70), .ref (u_3.1 71)])), ((u_3.1 69), .inl (k 0, 17, .inl (u_3.2.2.2.2.2.2.1 0))), ((u_3.1 70), .inl (k 0, 17, .inl (u_3.2.2.2.2.2.2.1 1))), ((u_3.1 71), .inl (k 0, 17, .inl (u_3.2.2.2.2.2.2.1 2))), ((u_3.1 5), .inr (1, [.ref (u_3.1 3), .ref (u_3.1 4), .int (u_3.2.2.2.2.1 0), .int (u_3.2.2.2.2.1 1), .int (u_3.2.2.2.2.1 2), .int (u_3.2.2.2.2.1 3), .int (u_3.2.2.2.2.1 4), .ref (u_3.1 72)])), ((u_3.1 72), .inl (k 0, 17, .inl (u_3.2.2.2.2.2.2.1 3))), ((u_3.1 6), .inr (1, [.ref (u_3.1 3), .ref (u_3.1 4), .int 0, .int 0, .int 0, .int 0, .int 0, .ref (u_3.1 73)])), ((u_3.1 73), .inl (k 0, 17, .inl (fun _ => 0))), ((u_3.1 7), .inr (7, [.ref (u_3.1 3), .ref (u_3.1 4), .ref (u_3.1 5)])), ((u_3.1 8), .inr (8, [.ref (u_3.1 3), .ref (u_3.1 4), .ref (u_3.1 6), .ref (u_3.1 74), .ref (u_3.1 75), .ref (u_3.1 76)])), ((u_3.1 74), .inl (k 0, 3, .inl (u_3.2.2.2.2.2.2.1 4))), ((u_3.1 76), .inl (k 3, 3, .inl (u_3.2.2.2.2.2.2.1 5))), ((u_3.1 75), .inl (k 5, 3, .inr (.inr (.inr (.inr (fun i => if i < 3 then some (u_3.2.1 i) else none)))))), ((u_3.2.1 0), .inl (k 0, 256, .inl (fun _ => 0))), ((u_3.2.1 1), .inl (k 0, 256, .inl (fun _ => 0))), ((u_3.2.1 2), .inl (k 0, 256, .inl (fun _ => 0))), ((u_3.1 9), .inr (0, [.ref (u_3.1 3), .ref (u_3.1 6), .int (u_3.2.2.2.2.1 5), .int 0])), ((u_3.1 10), .inr (6, [.ref (u_3.1 77), .ref (u_3.1 78), .ref (u_3.1 79)])), ((u_3.1 77), .inl (k 6, 4, .inr (.inr (.inr (.inr (fun i => if i < 4 then some (u_3.2.2.1 i) else none)))))), ((u_3.2.2.1 0), .inl (k 2, 60, .inr (.inl (fun _ => 0)))), ((u_3.2.2.1 1), .inl (k 2, 60, .inr (.inl (fun _ => 0)))), ((u_3.2.2.1 2), .inl (k 2, 60, .inr (.inl (fun _ => 0)))), ((u_3.2.2.1 3), .inl (k 2, 60, .inr (.inl (fun _ => 0)))), ((u_3.1 78), .inl (k 0, 4, .inl (fun _ => 0))), ((u_3.1 79), .inl (k 0, 4, .inl m1)), ((u_3.1 11), .inr (5, [.ref (u_3.1 3), .ref (u_3.1 10), .ref (u_3.1 6), .ref (u_3.1 80), .int 0, .int 0, .int 0])), ((u_3.1 80), .inl (k 5, 12, .inr (.inr (.inr (.inr (fun i => if i < 12 then some (u_3.2.2.2.1 i) else none)))))), ((u_3.2.2.2.1 0), .inl (k 0, 17, .inl (fun _ => 0))), ((u_3.2.2.2.1 1), .inl (k 0, 17, .inl (fun _ => 0))), ((u_3.2.2.2.1 2), .inl (k 0, 17, .inl (fun _ => 0))), ((u_3.2.2.2.1 3), .inl (k 0, 17, .inl (fun _ => 0))), ((u_3.2.2.2.1 4), .inl (k 0, 17, .inl (fun _ => 0))), ((u_3.2.2.2.1 5), .inl (k 0, 17, .inl (fun _ => 0))), ((u_3.2.2.2.1 6), .inl (k 0, 17, .inl (fun _ => 0))), ((u_3.2.2.2.1 7), .inl (k 0, 17, .inl (fun _ => 0))), ((u_3.2.2.2.1 8), .inl (k 0, 17, .inl (fun _ => 0))), ((u_3.2.2.2.1 9), .inl (k 0, 17, .inl (fun _ => 0))), ((u_3.2.2.2.1 10), .inl (k 0, 17, .inl (fun _ => 0))), ((u_3.2.2.2.1 11), .inl (k 0, 17, .inl (fun _ => 0))), ((u_3.1 12), .inr (9, [.ref (u_3.1 3), .ref (u_3.1 5), .ref (u_3.1 6), .ref (u_3.1 81), .ref (u_3.1 82), .int 0, .ref (u_3.1 83), .ref (u_3.1 84), .int 0])), ((u_3.1 81), .inl (k 0, 256, .inl (fun _ => 0))), ((u_3.1 82), .inl (k 2, 256, .inr (.inl (fun _ => 0)))), ((u_3.1 83), .inl (k 0, 256, .inl (fun _ => 0))), ((u_3.1 84), .inl (k 2, 256, .inr (.inl (fun _ => 0)))), ((u_3.1 13), .inl (k 4, 3, .inr (.inr (.inr (.inr (va_up (va_up (va_up (fun _ => none) 0 (some (u_3.1 36))) 1 (some (u_3.1 47))) 2 (some (u_3.1 58)))))))), ((u_3.1 14), .inl (k 3, 3, .inl (fun _ => 0))), ((u_3.1 36), .inr (2, [.int 0, .int 0, .int 0, .int 0, .int 0, .int 0, .int 0, .int 0, .int 0, .ref (u_3.1 37), .ref (u_3.1 38), .ref (u_3.1 39), .ref (u_3.1 40), .ref (u_3.1 41), .ref (u_3.1 42), .ref (u_3.1 43), .ref (u_3.1 44), .ref (u_3.1 45), .ref (u_3.1 46)])), ((u_3.1 37), .inl (k 0, 12, .inl (fun _ => 0))), ((u_3.1 38), .inl (k 0, 12, .inl (fun _ => 0))), ((u_3.1 39), .inl (k 0, 12, .inl (fun _ => 0))), ((u_3.1 40), .inl (k 0, 12, .inl (fun _ => 0))), ((u_3.1 41), .inl (k 0, 12, .inl (fun _ => 0))), ((u_3.1 42), .inl (k 0, 12, .inl (fun _ => 0))), ((u_3.1 43), .inl (k 0, 4, .inl (fun _ => 0))), ((u_3.1 44), .inl (k 0, 42, .inl (fun _ => 0))), ((u_3.1 45), .inl (k 0, 42, .inl (fun _ => 0))), ((u_3.1 46), .inl (k 0, 42, .inl (fun _ => 0))), ((u_3.1 47), .inr (2, [.int 0, .int 0, .int 0, .int 0, .int 0, .int 0, .int 0, .int 0, .int 0, .ref (u_3.1 48), .ref (u_3.1 49), .ref (u_3.1 50), .ref (u_3.1 51), .ref (u_3.1 52), .ref (u_3.1 53), .ref (u_3.1 54), .ref (u_3.1 55), .ref (u_3.1 56), .ref (u_3.1 57)])), ((u_3.1 48), .inl (k 0, 12, .inl (fun _ => 0))), ((u_3.1 49), .inl (k 0, 12, .inl (fun _ => 0))), ((u_3.1 50), .inl (k 0, 12, .inl (fun _ => 0))), ((u_3.1 51), .inl (k 0, 12, .inl (fun _ => 0))), ((u_3.1 52), .inl (k 0, 12, .inl (fun _ => 0))), ((u_3.1 53), .inl (k 0, 12, .inl (fun _ => 0))), ((u_3.1 54), .inl (k 0, 4, .inl (fun _ => 0))), ((u_3.1 55), .inl (k 0, 42, .inl (fun _ => 0))), ((u_3.1 56), .inl (k 0, 42, .inl (fun _ => 0))), ((u_3.1 57), .inl (k 0, 42, .inl (fun _ => 0))), ((u_3.1 58), .inr (2, [.int 0, .int 0, .int 0, .int 0, .int 0, .int 0, .int 0, .int 0, .int 0, .ref (u_3.1 59), .ref (u_3.1 60), .ref (u_3.1 61), .ref (u_3.1 62), .ref (u_3.1 63), .ref (u_3.1 64), .ref (u_3.1 65), .ref (u_3.1 66), .ref (u_3.1 67), .ref (u_3.1 68)])), ((u_3.1 59), .inl (k 0, 12, .inl (fun _ => 0))), ((u_3.1 60), .inl (k 0, 12, .inl (fun _ => 0))), ((u_3.1 61), .inl (k 0, 12, .inl (fun _ => 0))), ((u_3.1 62), .inl (k 0, 12, .inl (fun _ => 0))), ((u_3.1 63), .inl (k 0, 12, .inl (fun _ => 0))), ((u_3.1 64), .inl (k 0, 12, .inl (fun _ => 0))), ((u_3.1 65), .inl (k 0, 4, .inl (fun _ => 0))), ((u_3.1 66), .inl (k 0, 42, .inl (fun _ => 0))), ((u_3.1 67), .inl (k 0, 42, .inl (fun _ => 0))), ((u_3.1 68), .inl (k 0, 42, .inl (fun _ => 0))), ((u_6 0), .inr (11, [.int 0, .ref (u_6 1), .ref (u_6 2), .ref (u_6 3), .ref (u_6 4), .int 0, .ref (u_6 5), .int 0, .int 0, .int 0, .int 0, .int 0, .int 0, .int (-1), .ref (u_6 6), .ref (u_6 7), .ref (u_6 8), .ref (u_6 9), .ref (u_6 10), .ref (u_6 11), .ref (u_6 12), .int 0, .int 0, .int 0, .int 0, .ref (u_6 13), .ref (u_6 14), .ref (u_6 15), .int 0, .int 0, .int 0, .ref (u_6 16), .ref (u_6 17), .int 0, .ref (u_6 18), .long 0, .long 0, .ref (u_6 19), .int 0, .long 0, .long 0, .long 0, .ref (u_6 20), .ref (u_6 21), .ref (u_6 22), .ref (u_6 23)])), ((u_6 1), .inl (k 0, 99, .inl (fun _ => 0))), ((u_6 2), .inl (k 0, 297, .inl (fun _ => 0))), ((u_6 3), .inl (k 3, 3, .inl (fun _ => 0))), ((u_6 4), .inl (k 1, 600, .inl (fun _ => 0))), ((u_6 5), .inl (k 0, 5, .inl (fun _ => 0))), ((u_6 6), .inl (k 0, 99, .inl (fun _ => 0))), ((u_6 7), .inl (k 0, 12, .inl (fun _ => 0))), ((u_6 8), .inl (k 0, 12, .inl (fun _ => 0))), ((u_6 9), .inl (k 0, 4, .inl (fun _ => 0))), ((u_6 10), .inl (k 0, 12, .inl (fun _ => 0))), ((u_6 11), .inl (k 0, 14, .inl (fun _ => 0))), ((u_6 12), .inl (k 0, 14, .inl (fun _ => 0))), ((u_6 13), .inl (k 0, 17, .inl (fun _ => 0))), ((u_6 14), .inl (k 0, 17, .inl (fun _ => 0))), ((u_6 15), .inl (k 0, 17, .inl (fun _ => 0))), ((u_6 16), .inl (k 0, 4000, .inl (fun _ => 0))), ((u_6 17), .inl (k 0, 4000, .inl (fun _ => 0))), ((u_6 18), .inl (k 0, 256, .inl (fun _ => 0))), ((u_6 19), .inl (k 0, 2448, .inl (fun _ => 0))), ((u_6 20), .inl (k 0, 4, .inl m1)), ((u_6 21), .inl (k 0, 4, .inl (fun _ => 0))), ((u_6 22), .inl (k 2, 240, .inr (.inl (fun _ => 0)))), ((u_6 23), .inl (k 2, 60, .inr (.inl (fun _ => 0))))] := hD
  refine W.widen (k := 128) (n := 16419) (Nat.le_of_ble_eq_true rfl) (Nat.le_of_ble_eq_true rfl) ?_
  have hP9 := hP
  have hD9 := hD
  have hS9 := hS
  have hl9 := hl
  subst hr_5
  have hP := hP9
  have hD := hD9
  have hS := hS9
  have hl := hl9
  refine lv_astore_n (lv' := [(2, .ref (u_6 0)), (1, .ref (u_3.1 0)), (0, .ref b)]) hx hb dL_law_15 rfl hl (by decide) rfl (fun ls hl => ?_)
  refine lv_iconst (v := 0) hx hb dL_law_16 (by decide) ?_
  refine lv_istore_n (lv' := [(3, .int 0), (2, .ref (u_6 0)), (1, .ref (u_3.1 0)), (0, .ref b)]) hx hb dL_law_17 rfl hl (by decide) rfl (fun ls hl => ?_)
  exact law_loop hL C1 hK hZ (L + 7) 0 u_3.1 u_3.2.1 u_3.2.2.1 u_3.2.2.2.1 u_6 (fun i => ([0, (-1), 0, 0, 0, 0, 0, 0, 0, 0, 0, (u_3.2.2.2.2.1 0), (u_3.2.2.2.2.1 1), (u_3.2.2.2.2.1 2), (u_3.2.2.2.2.1 3), (u_3.2.2.2.2.1 4), 0, 0, 0, 0, 0, (u_3.2.2.2.2.1 5), 0, 0, 0, 0, 0, 0, 0, 0, 0, 0, 0, 0, 0, 0, 0, 0, (-1), 0, 0, 0, 0, 0, 0, 0, 0] : List (Int32)).getD i 0) (fun i => ([0, 0, 0, 0, 0, 0, 0, 0, 0, 0, 0, 0, 0, 0, 0, 0, 0, 0, 0, 0, 0, 0, 0, 0, 0, 0, 0, 0, 0, 0, 0, 0, 0, 0, 0, 0, 0, 0, 0, 0, 0] : List (Nat)).getD i 0) (fun i => ([(fun _ => 0), (fun _ => 0), (fun _ => 0), (fun _ => 0), (fun _ => 0), (fun _ => 0), (fun _ => 0), (fun _ => 0), (fun _ => 0), (fun _ => 0), (fun _ => 0), (fun _ => 0), (fun _ => 0), (fun _ => 0), (fun _ => 0), (fun _ => 0), (fun _ => 0), (fun _ => 0), (fun _ => 0), (fun _ => 0), (fun _ => 0), (u_3.2.2.2.2.2.2.1 0), (u_3.2.2.2.2.2.2.1 1), (u_3.2.2.2.2.2.2.1 2), (u_3.2.2.2.2.2.2.1 3), (fun _ => 0), (u_3.2.2.2.2.2.2.1 4), (u_3.2.2.2.2.2.2.1 5), (fun _ => 0), (fun _ => 0), (fun _ => 0), (fun _ => 0), m1, (fun _ => 0), (fun _ => 0), (fun _ => 0), (fun _ => 0), (fun _ => 0), (fun _ => 0), (fun _ => 0), (fun _ => 0), (fun _ => 0), (fun _ => 0), (fun _ => 0), (fun _ => 0), (fun _ => 0), (fun _ => 0), (fun _ => 0), (fun _ => 0), (fun _ => 0), (fun _ => 0), (fun _ => 0), (fun _ => 0), (fun _ => 0), (fun _ => 0), (fun _ => 0), (fun _ => 0), (fun _ => 0), (fun _ => 0), (fun _ => 0), (fun _ => 0), (fun _ => 0), (fun _ => 0), (fun _ => 0), (fun _ => 0), (fun _ => 0), (fun _ => 0), (fun _ => 0), (fun _ => 0), (fun _ => 0), (fun _ => 0), (fun _ => 0), (fun _ => 0), (fun _ => 0), (fun _ => 0), (fun _ => 0), (fun _ => 0), (fun _ => 0), (fun _ => 0), (fun _ => 0), (fun _ => 0), (fun _ => 0), (fun _ => 0), (fun _ => 0), (fun _ => 0), (fun _ => 0), (fun _ => 0), (fun _ => 0), (fun _ => 0), (fun _ => 0), (fun _ => 0), (fun _ => 0), (fun _ => 0), (fun _ => 0), (fun _ => 0), (fun _ => 0)] : List (Nat → Int32)).getD i (fun _ => 0)) (fun i => ([(fun _ => 0), (fun _ => 0), (fun _ => 0), (fun _ => 0), (fun _ => 0), (fun _ => 0), (fun _ => 0), (fun _ => 0)] : List (Nat → Int64)).getD i (fun _ => 0)) (fun i => ([0, 0, 0, 0, 0] : List (Int64)).getD i 0) _ _ _ (by omega) (by omega) ⟨by decide, okL_m1, (okW_zero (j := 99) (fun _ _ => rfl) (by omega)), okI_zero, (okW_zero (j := 99) (fun _ _ => rfl) (by omega)), okL_m1⟩ (hP.sub [0, 1, 2, 3, 4, 5, 6, 7, 8, 9, 10, 11, 12, 13, 14, 15, 16, 17, 18, 19, 20, 21, 22, 23, 24, 25, 26, 27, 28, 29, 30, 31, 32, 33, 34, 35, 36, 37, 38, 39, 40, 41, 42, 43, 44, 45, 46, 47, 48, 49, 50, 51, 52, 53, 54, 55, 56, 57, 58, 59, 60, 61, 62, 63, 64, 65, 66, 67, 68, 69, 70, 71, 72, 73, 74, 75, 76, 77, 78, 79, 80, 81, 82, 83, 84, 85, 86, 87, 88, 89, 90, 91, 92, 93, 94, 95, 96, 97, 98, 99, 100, 101, 102, 103, 104, 105, 106, 107, 108, 109, 110, 111, 112, 113, 114, 115, 116, 117, 118, 119, 120, 121, 122, 123, 124, 125, 126, 127] rfl) (hD.sub [0, 1, 2, 3, 4, 5, 6, 7, 8, 9, 10, 11, 12, 13, 14, 15, 16, 17, 18, 19, 20, 21, 22, 23, 24, 25, 26, 27, 28, 29, 30, 31, 32, 33, 34, 35, 36, 37, 38, 39, 40, 41, 42, 43, 44, 45, 46, 47, 48, 49, 50, 51, 52, 53, 54, 55, 56, 57, 58, 59, 60, 61, 62, 63, 64, 65, 66, 67, 68, 69, 70, 71, 72, 73, 74, 75, 76, 77, 78, 79, 80, 81, 82, 83, 84, 85, 86, 87, 88, 89, 90, 91, 92, 93, 94, 95, 96, 97, 98, 99, 100, 101, 102, 103, 104, 105, 106, 107, 108, 109, 110, 111, 112, 113, 114, 115, 116, 117, 118, 119, 120, 121, 122, 123, 124, 125, 126, 127] (by decide) rfl) hS (lv_sub hl [0, 1, 2, 3] rfl)
set_option maxHeartbeats 4000000 in
theorem lw_walk (l : Launch) (hflags : l.flags = flags0) (b : Addr) (xs : List Int32) : MetFree l x (headSpec (Jvm.Cond.code x code maxLocals ret :: tables_1) room_1) (lw_P b xs) (fun _ _ _ _ _ => True) lw_Q := by
  refine MetFree.of_bodyS (code := code) (maxLocals := maxLocals) (ret := ret) (by decide) ?_ ?_
  · intro args s m h hn
    obtain ⟨meth, c, h1, h2, h3, h4, h5, h6, -, -⟩ := Cond.code_spec hn (atoms_spec (ws := Jvm.Cond.code x code maxLocals ret :: tables_1) h _ List.mem_cons_self)
    exact ⟨meth, c, h1, h2, h3, h4, h5, h6⟩
  · intro p e s m args below meth c s₁ B hml0 hP _
    obtain ⟨rfl, hx, hbd, hgv⟩ := hP
    obtain ⟨scr, harrAt, hlist, hof, hsmall⟩ := hx
    obtain ⟨hcb, hkn, -, -⟩ := State.arrayAt?_spec harrAt
    have hown : s.vm.findClass R_law = some m.cls := findClass_of_methodNamed B.named
    have hts0 : ∀ c ∈ (Jvm.Cond.code x code maxLocals ret :: tables_1), c.before #[Value.ref b] s = true := atoms_spec (ws := Jvm.Cond.code x code maxLocals ret :: tables_1) B.pre
    have hts : ∀ w ∈ lw_tbl, w.before #[Value.ref b] s = true := k2_hts_sels lw_privs (fun w hw => hts0 w (List.mem_cons_of_mem _ hw)) lw_privs_ok
    have hml : c.maxLocals = 4 := B.maxLocals_eq (hts0 _ List.mem_cons_self)
    have X₀ : Stand p l e room_1 s m #[Value.ref b] below meth c s₁ [] 0 0 := Stand.of_body B
    have hh0 : s₁.heap = s.heap := by rw [B.state]; rfl
    have hsz : scr.slots.size = xs.length := by rw [← Array.length_toList, hlist, List.length_map]
    have hval : ∀ j : Nat, j < xs.length → scr.slots[j]? = some (.int (xs.getD j 0)) := fun j hj => by
      rw [← Array.getElem?_toList, hlist]
      simp [hj]
    have hbl : b < s.heap.size := (Array.getElem?_eq_some_iff.mp hcb).1
    have hX : va_X b xs.length (fun j => xs.getD j 0) s s.heap := ⟨scr, hcb, hof, hkn, hsz, hval⟩
    have K : W p l e room_1 s m #[Value.ref b] below meth c s₁.heap [] 0 0 (lw_Z below #[Value.ref b] s) (entryFrame m ([Value.ref b] : List Value).toArray 4) := by
      rw [hh0]
      exact whole_start l hflags hbd ⟨B.exec, B.bytes, B.returns, hml, hown, hts, hX, hbl, B.notSynchronized, hgv⟩
    obtain ⟨t, a1, o, b1, b2, b3⟩ := K s₁ rfl X₀
    exact ⟨t, o, a1, b1, b2, b3⟩
theorem lw_pre_spec {args : Array Value} {s : State} (h : (Jvm.Cond.and given_1 narrow_1).before args s = true) (hr : rest_1_c.before args s = true) : ∃ (b : Addr) (xs : List Int32), lw_P b xs args s := by
  have hs := flat_of_before _ h
  have hq := flat_of_before _ hr
  have hc : (Cond.count 1).before args s = true := hs _ (by decide +kernel)
  have harr : (Cond.arrayOf (.arg 0) .int).before args s = true := hs _ (by decide +kernel)
  have hle : (Cond.le (.length (.arg 0)) (.int 3072)).before args s = true := hs _ (by decide +kernel)
  have hlen : (Cond.isInt (.length (.arg 0))).before args s = true := hq _ (by decide +kernel)
  have hall : (Cond.all (.arg 0) (.isInt (.elem (.arg 0) (.index 0)))).before args s = true := hq _ (by decide +kernel)
  obtain ⟨b, xs, hb, hx⟩ := State.ints_of_pre rfl harr hlen hall
  have hsm : xs.length < 2 ^ 31 := hx.choose_spec.2.2.2
  have hev : (Term.length (.arg 0)).eval args s none [] s = some (.int xs.length.toInt32) := hx.length_eval hb
  have hv := Cond.le_ints hev (show (Term.int 3072).eval args s none [] s = some (.int 3072) from rfl)
  have hd : xs.length.toInt32 ≤ 3072 := by
    simpa [Cond.before, Cond.holds, hv] using hle
  have hN : xs.length ≤ 3072 := (Int32.ofNat_le_ofNat hsm (by decide)).mp (show Int32.ofNat xs.length ≤ Int32.ofNat 3072 from hd)
  exact ⟨b, xs, Cond.one_arg hc (show args[0]? = some (.ref b) from hb), hx, hN, h⟩
theorem lw_comes (l : Launch) (hflags : l.flags = flags0) : Comes l x (Jvm.Cond.code x code maxLocals ret :: tables_1) room_1 (fun tb e args s => Calls_1 tb e args s ∧ rest_1 tb e args s ∧ Pre_1 tb e args s)
    (fun _ _ args s o t => lw_Q args s o t) := by
  intro p e ha hc hk s m args below hf hfit hheap happ hpre
  obtain ⟨b, xs, hP⟩ := lw_pre_spec hpre.2.2 hpre.2.1
  obtain ⟨k, o, h1, h2, h3, hQ⟩ := lw_walk l hflags b xs p e ha hc hk s m args below hf ((Spec.applies_iff_loose hf).mp happ).1 hP trivial
  exact ⟨k, o, h1, h2, h3, hQ⟩
theorem lw_frame {s t : State} {o : Outcome} {args : Array Value} (h : Framed s o t [] 600000 7302250) :
    Framed s o t (fieldLocs frame_1_writes args s ++ arrayLocs frame_1_arrays args s ++ staticLocs frame_1_statics s) 600000 7302250 := h
theorem lw_limb (L : Cond) (hL : ∀ (args : Array Value) (s t : State), L.after args s (.returned (some (.int 1))) t = true) :
    ArmFor flags0 classFile x code maxLocals ret World_1 tables_1 room_1 Calls_1 rest_1 Pre_1
      (fun tb e a s o t => postC L tb e a s o t ∧ Framed s o t (fieldLocs frame_1_writes a s ++ arrayLocs frame_1_arrays a s ++ staticLocs frame_1_statics s) 600000 7302250) := by
  intro l hflags _ _ p e ha hc hk s m args below hf hfit hheap happ hpre
  obtain ⟨k, o, h1, h2, h3, rfl, hF⟩ := lw_comes l hflags p e ha hc hk s m args below hf hfit hheap happ hpre
  exact ⟨k, _, h1, h2, h3, hL args s _, lw_frame hF⟩
theorem i_vc : Claimed_1_1 ∧ Claimed_1_2 := ⟨lw_limb limb_1_1 (fun args s t => by simp [limb_1_1, Cond.after, Cond.holds, Cond.value]), lw_limb limb_1_2 (fun args s t => Cond.after_iff.mpr (by
  first | (rw [show limb_1_2 = Cond.eq .result (.int 1) from rfl, Cond.eq_ints (x := 1) (y := 1) rfl rfl]; simp; done) | (simp [limb_1_2, Cond.value, Term.eval]; done)))⟩

