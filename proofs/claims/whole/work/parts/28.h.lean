set_option maxRecDepth 100000 in
set_option maxHeartbeats 4000000 in
theorem c_X4_trueSpeed (l : Launch) (D : sD) (B : Nat) (ad : Nat → Nat) (rf : Int32) (κ : sQ) (x : Int32) (i : Nat) (hx9 : x = nI i) (hi60 : i < 60) : Met l yX4_trueSpeed wsX4_trueSpeed ({ frames := 0, cells := 0, slots := 0, locals := 0 } : Room) (sP D B (MW D ad rf κ) ([.ref (ad 0), .int x] : List Value)) (vp_Si (fun rr => rr = tSp κ i)) 0 0 (fun _ => False) := by
  refine s_head (cc := cX4_trueSpeed) (maxL := 2) (ret := (some .int)) (by decide +kernel) rfl (Nat.le_of_ble_eq_true rfl) ?_
  intro p e s m below meth c hx hb hr hlk hml hown hnm hts hB0 ls hl
  have hJ := hB0
  have hown : s.vm.findClass RX4 = some m.cls := hown
  have hl : lv_has ls 2 [(0, .ref (ad 0)), (1, .int x)] := hl
  have k13 : (Cond.fieldLink RX4 13 "SailLogModel" "speeds" "[I").before ([.ref (ad 0), .int x] : List Value).toArray s = true := hts _ (by decide +kernel)
  have i4 : ∀ w ∈ wsX40, w ∈ wsX4_trueSpeed := by decide +kernel
  have k25 : (Cond.fieldLink RX4 25 "SailLogModel" "factor" "I").before ([.ref (ad 0), .int x] : List Value).toArray s = true := hts _ (by decide +kernel)
  refine lv_aload_n hx hb dX4_trueSpeed_0 rfl (lv_at hl 0 rfl) ?_
  refine g4_3 hx hb hts i4 hown hJ k13 dX4_trueSpeed_1 ?_
  refine lv_iload_n hx hb dX4_trueSpeed_4 rfl (lv_at hl 1 rfl) ?_
  refine b_2 (k := i) hx hb hJ (hx9) (hi60) dX4_trueSpeed_5 ?_
  refine lv_aload_n hx hb dX4_trueSpeed_6 rfl (lv_at hl 0 rfl) ?_
  refine g4_7 hx hb hts i4 hown hJ k25 dX4_trueSpeed_7 ?_
  refine lv_imul hx hb dX4_trueSpeed_10 ?_
  refine lv_sipush (v := 1000) hx hb dX4_trueSpeed_11 (by decide +kernel) ?_
  refine lv_idiv hx hb dX4_trueSpeed_14 (by decide +kernel) ?_
  exact s_iret hx hb hr hlk dX4_trueSpeed_15 (rfl)
set_option maxRecDepth 100000 in
set_option maxHeartbeats 4000000 in
theorem c_X4_trueHeading (l : Launch) (D : sD) (B : Nat) (ad : Nat → Nat) (rf : Int32) (κ : sQ) (x : Int32) (i : Nat) (hx9 : x = nI i) (hi60 : i < 60) : Met l yX4_trueHeading wsX4_trueHeading ({ frames := 1, cells := 0, slots := 0, locals := 21 } : Room) (sP D B (MW D ad rf κ) ([.ref (ad 0), .int x] : List Value)) (vp_Si (fun rr => rr = tHd κ i)) 0 0 (fun _ => False) := by
  refine s_head (cc := cX4_trueHeading) (maxL := 2) (ret := (some .int)) (by decide +kernel) rfl (Nat.le_of_ble_eq_true rfl) ?_
  intro p e s m below meth c hx hb hr hlk hml hown hnm hts hB0 ls hl
  have hJ := hB0
  have hown : s.vm.findClass RX4 = some m.cls := hown
  have hl : lv_has ls 2 [(0, .ref (ad 0)), (1, .int x)] := hl
  have k16 : (Cond.fieldLink RX4 16 "SailLogModel" "headings" "[I").before ([.ref (ad 0), .int x] : List Value).toArray s = true := hts _ (by decide +kernel)
  have i4 : ∀ w ∈ wsX40, w ∈ wsX4_trueHeading := by decide +kernel
  have k49 : (Cond.fieldLink RX4 49 "SailLogModel" "compass" "I").before ([.ref (ad 0), .int x] : List Value).toArray s = true := hts _ (by decide +kernel)
  refine lv_aload_n hx hb dX4_trueHeading_0 rfl (lv_at hl 0 rfl) ?_
  refine g4_4 hx hb hts i4 hown hJ k16 dX4_trueHeading_1 ?_
  refine lv_iload_n hx hb dX4_trueHeading_4 rfl (lv_at hl 1 rfl) ?_
  refine b_3 (k := i) hx hb hJ (hx9) (hi60) dX4_trueHeading_5 ?_
  refine lv_aload_n hx hb dX4_trueHeading_6 rfl (lv_at hl 0 rfl) ?_
  refine g4_8 hx hb hts i4 hown hJ k49 dX4_trueHeading_7 ?_
  refine lv_iadd hx hb dX4_trueHeading_10 ?_
  refine s_ciS (As := [.int ((κ 3 i) + (κ 0 2))]) (rest := []) ⟨hx, hb, hml, hown, hts⟩ (c_X4_turned l ((κ 3 i) + (κ 0 2)) ) (va_cwS 1 hts gX4_trueHeading_X4_turned rfl rfl rfl hdS_X4_turned ⟨Nat.le_of_ble_eq_true rfl, Nat.le_of_ble_eq_true rfl⟩) sPS0 rfl hl.1 rfl (Nat.le_of_ble_eq_true rfl) dX4_trueHeading_11 ⟨Nat.le_of_ble_eq_true rfl, Nat.le_of_ble_eq_true rfl⟩ ?_
  exact s_iret hx hb hr hlk dX4_trueHeading_14 (rfl)
set_option maxRecDepth 100000 in
set_option maxHeartbeats 4000000 in
theorem c_X4_ahead (l : Launch) (D : sD) (B : Nat) (ad : Nat → Nat) (rf : Int32) (κ : sQ) (x : Int32) (i : Nat) (hx9 : x = nI i) (hi60 : i < 60) : Met l yX4_ahead wsX4_ahead ({ frames := 3, cells := 0, slots := 0, locals := 65 } : Room) (sP D B (MW D ad rf κ) ([.ref (ad 0), .int x] : List Value)) (vp_Sl (fun rr => rr = tAh κ i)) 0 0 (fun _ => False) := by
  refine s_head (cc := cX4_ahead) (maxL := 2) (ret := (some .long)) (by decide +kernel) rfl (Nat.le_of_ble_eq_true rfl) ?_
  intro p e s m below meth c hx hb hr hlk hml hown hnm hts hB0 ls hl
  have hJ := hB0
  have hown : s.vm.findClass RX4 = some m.cls := hown
  have hl : lv_has ls 2 [(0, .ref (ad 0)), (1, .int x)] := hl
  have k19 : (Cond.fieldLink RX4 19 "SailLogModel" "strengths" "[I").before ([.ref (ad 0), .int x] : List Value).toArray s = true := hts _ (by decide +kernel)
  have i4 : ∀ w ∈ wsX40, w ∈ wsX4_ahead := by decide +kernel
  have k22 : (Cond.fieldLink RX4 22 "SailLogModel" "angles" "[I").before ([.ref (ad 0), .int x] : List Value).toArray s = true := hts _ (by decide +kernel)
  have k52 : (Cond.fieldLink RX4 52 "SailLogModel" "vane" "I").before ([.ref (ad 0), .int x] : List Value).toArray s = true := hts _ (by decide +kernel)
  have k66 : (Cond.constantLong RX4 66 (1000)).before ([.ref (ad 0), .int x] : List Value).toArray s = true := hts _ (by decide +kernel)
  refine lv_aload_n hx hb dX4_ahead_0 rfl (lv_at hl 0 rfl) ?_
  refine g4_5 hx hb hts i4 hown hJ k19 dX4_ahead_1 ?_
  refine lv_iload_n hx hb dX4_ahead_4 rfl (lv_at hl 1 rfl) ?_
  refine b_4 (k := i) hx hb hJ (hx9) (hi60) dX4_ahead_5 ?_
  refine lv_i2l hx hb dX4_ahead_6 rfl ?_
  refine lv_aload_n hx hb dX4_ahead_7 rfl (lv_at hl 0 rfl) ?_
  refine g4_6 hx hb hts i4 hown hJ k22 dX4_ahead_8 ?_
  refine lv_iload_n hx hb dX4_ahead_11 rfl (lv_at hl 1 rfl) ?_
  refine b_5 (k := i) hx hb hJ (hx9) (hi60) dX4_ahead_12 ?_
  refine lv_aload_n hx hb dX4_ahead_13 rfl (lv_at hl 0 rfl) ?_
  refine g4_9 hx hb hts i4 hown hJ k52 dX4_ahead_14 ?_
  refine lv_iadd hx hb dX4_ahead_17 ?_
  refine s_ciS (As := [.int ((κ 5 i) + (κ 0 3))]) (rest := [.long ((κ 4 i).toInt64)]) ⟨hx, hb, hml, hown, hts⟩ (c_X4_cos l ((κ 5 i) + (κ 0 3)) ) (va_cwS 1 hts gX4_ahead_X4_cos rfl rfl rfl hdS_X4_cos ⟨Nat.le_of_ble_eq_true rfl, Nat.le_of_ble_eq_true rfl⟩) sPS0 rfl hl.1 rfl (Nat.le_of_ble_eq_true rfl) dX4_ahead_18 ⟨Nat.le_of_ble_eq_true rfl, Nat.le_of_ble_eq_true rfl⟩ ?_
  refine lv_i2l hx hb dX4_ahead_21 rfl ?_
  refine lv_lmul hx hb dX4_ahead_22 ?_
  refine lv_ldc2 (own := RX4) hx hb hown k66 dX4_ahead_23 ?_
  refine lv_aload_n hx hb dX4_ahead_26 rfl (lv_at hl 0 rfl) ?_
  refine lv_iload_n hx hb dX4_ahead_27 rfl (lv_at hl 1 rfl) ?_
  refine s_ciV (As := [.int x]) (rest := [.long 1000, .long (((κ 4 i).toInt64) * ((cs ((κ 5 i) + (κ 0 3))).toInt64))]) ⟨hx, hb, hml, hown, hts⟩ (c_X4_trueSpeed l D B ad rf κ x i (by assumption) (by assumption)) (cwV 1 hts gX4_ahead_X4_trueSpeed rfl rfl rfl hdV_X4_trueSpeed ⟨Nat.le_of_ble_eq_true rfl, Nat.le_of_ble_eq_true rfl⟩) (sPV hJ (ci := 4) (q0 := 0) rfl rfl) rfl hl.1 rfl (Nat.le_of_ble_eq_true rfl) dX4_ahead_28 ⟨Nat.le_of_ble_eq_true rfl, Nat.le_of_ble_eq_true rfl⟩ ?_
  refine lv_i2l hx hb dX4_ahead_31 rfl ?_
  refine lv_lmul hx hb dX4_ahead_32 ?_
  refine lv_lsub hx hb dX4_ahead_33 ?_
  exact s_lret hx hb hr hlk dX4_ahead_34 (rfl)
set_option maxRecDepth 100000 in
set_option maxHeartbeats 4000000 in
theorem c_X4_across (l : Launch) (D : sD) (B : Nat) (ad : Nat → Nat) (rf : Int32) (κ : sQ) (x : Int32) (i : Nat) (hx9 : x = nI i) (hi60 : i < 60) : Met l yX4_across wsX4_across ({ frames := 2, cells := 0, slots := 0, locals := 45 } : Room) (sP D B (MW D ad rf κ) ([.ref (ad 0), .int x] : List Value)) (vp_Sl (fun rr => rr = tAc κ i)) 0 0 (fun _ => False) := by
  refine s_head (cc := cX4_across) (maxL := 2) (ret := (some .long)) (by decide +kernel) rfl (Nat.le_of_ble_eq_true rfl) ?_
  intro p e s m below meth c hx hb hr hlk hml hown hnm hts hB0 ls hl
  have hJ := hB0
  have hown : s.vm.findClass RX4 = some m.cls := hown
  have hl : lv_has ls 2 [(0, .ref (ad 0)), (1, .int x)] := hl
  have k19 : (Cond.fieldLink RX4 19 "SailLogModel" "strengths" "[I").before ([.ref (ad 0), .int x] : List Value).toArray s = true := hts _ (by decide +kernel)
  have i4 : ∀ w ∈ wsX40, w ∈ wsX4_across := by decide +kernel
  have k22 : (Cond.fieldLink RX4 22 "SailLogModel" "angles" "[I").before ([.ref (ad 0), .int x] : List Value).toArray s = true := hts _ (by decide +kernel)
  have k52 : (Cond.fieldLink RX4 52 "SailLogModel" "vane" "I").before ([.ref (ad 0), .int x] : List Value).toArray s = true := hts _ (by decide +kernel)
  refine lv_aload_n hx hb dX4_across_0 rfl (lv_at hl 0 rfl) ?_
  refine g4_5 hx hb hts i4 hown hJ k19 dX4_across_1 ?_
  refine lv_iload_n hx hb dX4_across_4 rfl (lv_at hl 1 rfl) ?_
  refine b_4 (k := i) hx hb hJ (hx9) (hi60) dX4_across_5 ?_
  refine lv_i2l hx hb dX4_across_6 rfl ?_
  refine lv_aload_n hx hb dX4_across_7 rfl (lv_at hl 0 rfl) ?_
  refine g4_6 hx hb hts i4 hown hJ k22 dX4_across_8 ?_
  refine lv_iload_n hx hb dX4_across_11 rfl (lv_at hl 1 rfl) ?_
  refine b_5 (k := i) hx hb hJ (hx9) (hi60) dX4_across_12 ?_
  refine lv_aload_n hx hb dX4_across_13 rfl (lv_at hl 0 rfl) ?_
  refine g4_9 hx hb hts i4 hown hJ k52 dX4_across_14 ?_
  refine lv_iadd hx hb dX4_across_17 ?_
  refine s_ciS (As := [.int ((κ 5 i) + (κ 0 3))]) (rest := [.long ((κ 4 i).toInt64)]) ⟨hx, hb, hml, hown, hts⟩ (c_X4_sin l ((κ 5 i) + (κ 0 3)) ) (va_cwS 1 hts gX4_across_X4_sin rfl rfl rfl hdS_X4_sin ⟨Nat.le_of_ble_eq_true rfl, Nat.le_of_ble_eq_true rfl⟩) sPS0 rfl hl.1 rfl (Nat.le_of_ble_eq_true rfl) dX4_across_18 ⟨Nat.le_of_ble_eq_true rfl, Nat.le_of_ble_eq_true rfl⟩ ?_
  refine lv_i2l hx hb dX4_across_21 rfl ?_
  refine lv_lmul hx hb dX4_across_22 ?_
  exact s_lret hx hb hr hlk dX4_across_23 (rfl)
set_option maxRecDepth 100000 in
set_option maxHeartbeats 4000000 in
theorem c_X4_strengthOf (l : Launch) (D : sD) (B : Nat) (ad : Nat → Nat) (rf : Int32) (κ : sQ) (x : Int32) (i : Nat) (hx9 : x = nI i) (hi60 : i < 60) (hok : tOk κ i) : Met l yX4_strengthOf wsX4_strengthOf ({ frames := 4, cells := 0, slots := 0, locals := 86 } : Room) (sP D B (MW D ad rf κ) ([.ref (ad 0), .int x] : List Value)) (vp_Si (fun rr => rr = tWs κ i)) 0 0 (fun _ => False) := by
  refine s_head (cc := cX4_strengthOf) (maxL := 6) (ret := (some .int)) (by decide +kernel) rfl (Nat.le_of_ble_eq_true rfl) ?_
  intro p e s m below meth c hx hb hr hlk hml hown hnm hts hB0 ls hl
  have hJ := hB0
  have hown : s.vm.findClass RX4 = some m.cls := hown
  have hl : lv_has ls 6 [(0, .ref (ad 0)), (1, .int x)] := hl
  have k66 : (Cond.constantLong RX4 66 (1000)).before ([.ref (ad 0), .int x] : List Value).toArray s = true := hts _ (by decide +kernel)
  refine lv_aload_n hx hb dX4_strengthOf_0 rfl (lv_at hl 0 rfl) ?_
  refine lv_iload_n hx hb dX4_strengthOf_1 rfl (lv_at hl 1 rfl) ?_
  refine s_clV (As := [.int x]) (rest := []) ⟨hx, hb, hml, hown, hts⟩ (c_X4_ahead l D B ad rf κ x i (by assumption) (by assumption)) (cwV 1 hts gX4_strengthOf_X4_ahead rfl rfl rfl hdV_X4_ahead ⟨Nat.le_of_ble_eq_true rfl, Nat.le_of_ble_eq_true rfl⟩) (sPV hJ (ci := 4) (q0 := 0) rfl rfl) rfl hl.1 rfl (Nat.le_of_ble_eq_true rfl) dX4_strengthOf_2 ⟨Nat.le_of_ble_eq_true rfl, Nat.le_of_ble_eq_true rfl⟩ ?_
  refine lv_lstore_n (lv' := [(2, .long (tAh κ i)), (0, .ref (ad 0)), (1, .int x)]) hx hb dX4_strengthOf_5 rfl hl (by decide) rfl (fun ls hl => ?_)
  refine lv_aload_n hx hb dX4_strengthOf_6 rfl (lv_at hl 1 rfl) ?_
  refine lv_iload_n hx hb dX4_strengthOf_7 rfl (lv_at hl 2 rfl) ?_
  refine s_clV (As := [.int x]) (rest := []) ⟨hx, hb, hml, hown, hts⟩ (c_X4_across l D B ad rf κ x i (by assumption) (by assumption)) (cwV 1 hts gX4_strengthOf_X4_across rfl rfl rfl hdV_X4_across ⟨Nat.le_of_ble_eq_true rfl, Nat.le_of_ble_eq_true rfl⟩) (sPV hJ (ci := 4) (q0 := 0) rfl rfl) rfl hl.1 rfl (Nat.le_of_ble_eq_true rfl) dX4_strengthOf_8 ⟨Nat.le_of_ble_eq_true rfl, Nat.le_of_ble_eq_true rfl⟩ ?_
  refine lv_lstore (lv' := [(4, .long (tAc κ i)), (2, .long (tAh κ i)), (0, .ref (ad 0)), (1, .int x)]) hx hb dX4_strengthOf_11 hl (by decide) rfl (fun ls hl => ?_)
  refine lv_lload_n hx hb dX4_strengthOf_13 rfl (lv_at hl 1 rfl) ?_
  refine lv_lload_n hx hb dX4_strengthOf_14 rfl (lv_at hl 1 rfl) ?_
  refine lv_lmul hx hb dX4_strengthOf_15 ?_
  refine lv_lload hx hb dX4_strengthOf_16 (lv_at hl 0 rfl) ?_
  refine lv_lload hx hb dX4_strengthOf_18 (lv_at hl 0 rfl) ?_
  refine lv_lmul hx hb dX4_strengthOf_20 ?_
  refine lv_ladd hx hb dX4_strengthOf_21 ?_
  refine s_clS (As := [.long (((tAh κ i) * (tAh κ i)) + ((tAc κ i) * (tAc κ i)))]) (rest := []) ⟨hx, hb, hml, hown, hts⟩ (c_X4_root l (((tAh κ i) * (tAh κ i)) + ((tAc κ i) * (tAc κ i))) ((tSq hok).1) ((tSq hok).2)) (va_cwS 1 hts gX4_strengthOf_X4_root rfl rfl rfl hdS_X4_root ⟨Nat.le_of_ble_eq_true rfl, Nat.le_of_ble_eq_true rfl⟩) sPS0 rfl hl.1 rfl (Nat.le_of_ble_eq_true rfl) dX4_strengthOf_22 ⟨Nat.le_of_ble_eq_true rfl, Nat.le_of_ble_eq_true rfl⟩ ?_
  refine lv_ldc2 (own := RX4) hx hb hown k66 dX4_strengthOf_25 ?_
  refine lv_ldiv hx hb dX4_strengthOf_28 (by decide +kernel) ?_
  refine lv_l2i hx hb dX4_strengthOf_29 rfl ?_
  exact s_iret hx hb hr hlk dX4_strengthOf_30 (rfl)
set_option maxRecDepth 100000 in
set_option maxHeartbeats 4000000 in
theorem c_X4_angleOf (l : Launch) (D : sD) (B : Nat) (ad : Nat → Nat) (rf : Int32) (κ : sQ) (x : Int32) (i : Nat) (hx9 : x = nI i) (hi60 : i < 60) : Met l yX4_angleOf wsX4_angleOf ({ frames := 4, cells := 0, slots := 0, locals := 86 } : Room) (sP D B (MW D ad rf κ) ([.ref (ad 0), .int x] : List Value)) (vp_Si (fun rr => rr = tWa κ i)) 0 0 (fun _ => False) := by
  refine s_head (cc := cX4_angleOf) (maxL := 12) (ret := (some .int)) (by decide +kernel) rfl (Nat.le_of_ble_eq_true rfl) ?_
  intro p e s m below meth c hx hb hr hlk hml hown hnm hts hB0 ls hl
  have hJ := hB0
  have hown : s.vm.findClass RX4 = some m.cls := hown
  have hl : lv_has ls 12 [(0, .ref (ad 0)), (1, .int x)] := hl
  refine lv_aload_n hx hb dX4_angleOf_0 rfl (lv_at hl 0 rfl) ?_
  refine lv_iload_n hx hb dX4_angleOf_1 rfl (lv_at hl 1 rfl) ?_
  refine s_clV (As := [.int x]) (rest := []) ⟨hx, hb, hml, hown, hts⟩ (c_X4_ahead l D B ad rf κ x i (by assumption) (by assumption)) (cwV 1 hts gX4_angleOf_X4_ahead rfl rfl rfl hdV_X4_ahead ⟨Nat.le_of_ble_eq_true rfl, Nat.le_of_ble_eq_true rfl⟩) (sPV hJ (ci := 4) (q0 := 0) rfl rfl) rfl hl.1 rfl (Nat.le_of_ble_eq_true rfl) dX4_angleOf_2 ⟨Nat.le_of_ble_eq_true rfl, Nat.le_of_ble_eq_true rfl⟩ ?_
  refine lv_lstore_n (lv' := [(2, .long (tAh κ i)), (0, .ref (ad 0)), (1, .int x)]) hx hb dX4_angleOf_5 rfl hl (by decide) rfl (fun ls hl => ?_)
  refine lv_aload_n hx hb dX4_angleOf_6 rfl (lv_at hl 1 rfl) ?_
  refine lv_iload_n hx hb dX4_angleOf_7 rfl (lv_at hl 2 rfl) ?_
  refine s_clV (As := [.int x]) (rest := []) ⟨hx, hb, hml, hown, hts⟩ (c_X4_across l D B ad rf κ x i (by assumption) (by assumption)) (cwV 1 hts gX4_angleOf_X4_across rfl rfl rfl hdV_X4_across ⟨Nat.le_of_ble_eq_true rfl, Nat.le_of_ble_eq_true rfl⟩) (sPV hJ (ci := 4) (q0 := 0) rfl rfl) rfl hl.1 rfl (Nat.le_of_ble_eq_true rfl) dX4_angleOf_8 ⟨Nat.le_of_ble_eq_true rfl, Nat.le_of_ble_eq_true rfl⟩ ?_
  refine lv_lstore (lv' := [(4, .long (tAc κ i)), (2, .long (tAh κ i)), (0, .ref (ad 0)), (1, .int x)]) hx hb dX4_angleOf_11 hl (by decide) rfl (fun ls hl => ?_)
  refine lv_iconst (v := 0) hx hb dX4_angleOf_13 (by decide +kernel) ?_
  refine lv_istore (lv' := [(6, .int 0), (4, .long (tAc κ i)), (2, .long (tAh κ i)), (0, .ref (ad 0)), (1, .int x)]) hx hb dX4_angleOf_14 hl (by decide) rfl (fun ls hl => ?_)
  refine lv_lload_n hx hb dX4_angleOf_16 rfl (lv_at hl 2 rfl) ?_
  refine lv_iconst (v := 0) hx hb dX4_angleOf_17 (by decide +kernel) ?_
  refine s_ciS (As := [.int 0]) (rest := [.long (tAh κ i)]) ⟨hx, hb, hml, hown, hts⟩ (c_X4_cos l 0 ) (va_cwS 1 hts gX4_angleOf_X4_cos rfl rfl rfl hdS_X4_cos ⟨Nat.le_of_ble_eq_true rfl, Nat.le_of_ble_eq_true rfl⟩) sPS0 rfl hl.1 rfl (Nat.le_of_ble_eq_true rfl) dX4_angleOf_18 ⟨Nat.le_of_ble_eq_true rfl, Nat.le_of_ble_eq_true rfl⟩ ?_
  refine lv_i2l hx hb dX4_angleOf_21 rfl ?_
  refine lv_lmul hx hb dX4_angleOf_22 ?_
  refine lv_lload hx hb dX4_angleOf_23 (lv_at hl 1 rfl) ?_
  refine lv_iconst (v := 0) hx hb dX4_angleOf_25 (by decide +kernel) ?_
  refine s_ciS (As := [.int 0]) (rest := [.long (tAc κ i), .long ((tAh κ i) * ((cs 0).toInt64))]) ⟨hx, hb, hml, hown, hts⟩ (c_X4_sin l 0 ) (va_cwS 1 hts gX4_angleOf_X4_sin rfl rfl rfl hdS_X4_sin ⟨Nat.le_of_ble_eq_true rfl, Nat.le_of_ble_eq_true rfl⟩) sPS0 rfl hl.1 rfl (Nat.le_of_ble_eq_true rfl) dX4_angleOf_26 ⟨Nat.le_of_ble_eq_true rfl, Nat.le_of_ble_eq_true rfl⟩ ?_
  refine lv_i2l hx hb dX4_angleOf_29 rfl ?_
  refine lv_lmul hx hb dX4_angleOf_30 ?_
  refine lv_ladd hx hb dX4_angleOf_31 ?_
  refine lv_topl (fun m0 em0 => ?_)
  refine lv_lstore (lv' := [(7, .long m0), (6, .int 0), (4, .long (tAc κ i)), (2, .long (tAh κ i)), (0, .ref (ad 0)), (1, .int x)]) hx hb dX4_angleOf_32 hl (by decide) rfl (fun ls hl => ?_)
  refine lv_iconst (v := 1) hx hb dX4_angleOf_34 (by decide +kernel) ?_
  refine lv_istore (lv' := [(9, .int 1), (7, .long m0), (6, .int 0), (4, .long (tAc κ i)), (2, .long (tAh κ i)), (0, .ref (ad 0)), (1, .int x)]) hx hb dX4_angleOf_35 hl (by decide) rfl (fun ls hl => ?_)
  have loop37 : ∀ (fuel : Nat) (j : Nat) (bst : Nat) (mo : Int64) (hj1 : 1 ≤ j) (hj : j ≤ 360) (hbm : mB (tAh κ i) (tAc κ i) (j - 1) = bst) (hmo : mo = rch (tAh κ i) (tAc κ i) bst) (hfu : 361 ≤ j + fuel) (ls : Array Slot), lv_has ls 12 [(0, .ref (ad 0)), (1, .int x), (2, .long (tAh κ i)), (4, .long (tAc κ i)), (6, .int (nI bst)), (7, .long mo), (9, .int (nI j))] → W p l e ({ frames := 4, cells := 0, slots := 0, locals := 86 } : Room) s m ([.ref (ad 0), .int x] : List Value).toArray below meth c s.heap [] 0 0 (MQ below (vp_Si (fun rr => rr = tWa κ i)) ([.ref (ad 0), .int x] : List Value).toArray s 0 0 (fun _ => False)) (F0 m 37 ls []) := by
    intro fuel
    induction fuel with
    | zero => intro j bst mo hj1 hj hbm hmo hfu ls hl; exact absurd (hfu) (by omega)
    | succ fuel ih37 =>
      intro j bst mo hj1 hj hbm hmo hfu ls hl
      refine lv_iload hx hb dX4_angleOf_37 (lv_at hl 6 rfl) ?_
      refine lv_sipush (v := 360) hx hb dX4_angleOf_39 (by decide +kernel) ?_
      refine lv_icmp_ge (tgt := 105) hx hb dX4_angleOf_42 (by decide) (fun c42 => ?_) (fun c42 => ?_)
      ·
        refine lv_iload hx hb dX4_angleOf_105 (lv_at hl 4 rfl) ?_
        exact s_iret hx hb hr hlk dX4_angleOf_107 (by rw [← hbm, show j = 360 from by have := (nI_leI (a := 360) (b := j) (by omega) (by omega)).mp c42; omega]; rfl)
      ·
        have hj2 : j < 360 := by have := mt (nI_leI (a := 360) (b := j) (by omega) (by omega)).mpr c42; omega
        refine lv_lload_n hx hb dX4_angleOf_45 rfl (lv_at hl 2 rfl) ?_
        refine lv_iload hx hb dX4_angleOf_46 (lv_at hl 6 rfl) ?_
        refine s_ciS (As := [.int (nI j)]) (rest := [.long (tAh κ i)]) ⟨hx, hb, hml, hown, hts⟩ (c_X4_cos l (nI j) ) (va_cwS 1 hts gX4_angleOf_X4_cos rfl rfl rfl hdS_X4_cos ⟨Nat.le_of_ble_eq_true rfl, Nat.le_of_ble_eq_true rfl⟩) sPS0 rfl hl.1 rfl (Nat.le_of_ble_eq_true rfl) dX4_angleOf_48 ⟨Nat.le_of_ble_eq_true rfl, Nat.le_of_ble_eq_true rfl⟩ ?_
        refine lv_i2l hx hb dX4_angleOf_51 rfl ?_
        refine lv_lmul hx hb dX4_angleOf_52 ?_
        refine lv_lload hx hb dX4_angleOf_53 (lv_at hl 3 rfl) ?_
        refine lv_iload hx hb dX4_angleOf_55 (lv_at hl 6 rfl) ?_
        refine s_ciS (As := [.int (nI j)]) (rest := [.long (tAc κ i), .long ((tAh κ i) * ((cs (nI j)).toInt64))]) ⟨hx, hb, hml, hown, hts⟩ (c_X4_sin l (nI j) ) (va_cwS 1 hts gX4_angleOf_X4_sin rfl rfl rfl hdS_X4_sin ⟨Nat.le_of_ble_eq_true rfl, Nat.le_of_ble_eq_true rfl⟩) sPS0 rfl hl.1 rfl (Nat.le_of_ble_eq_true rfl) dX4_angleOf_57 ⟨Nat.le_of_ble_eq_true rfl, Nat.le_of_ble_eq_true rfl⟩ ?_
        refine lv_i2l hx hb dX4_angleOf_60 rfl ?_
        refine lv_lmul hx hb dX4_angleOf_61 ?_
        refine lv_ladd hx hb dX4_angleOf_62 ?_
        refine lv_topl (fun rr err => ?_)
        refine lv_lstore (lv' := [(10, .long rr), (0, .ref (ad 0)), (1, .int x), (2, .long (tAh κ i)), (4, .long (tAc κ i)), (6, .int (nI bst)), (7, .long mo), (9, .int (nI j))]) hx hb dX4_angleOf_63 hl (by decide) rfl (fun ls hl => ?_)
        refine lv_lload hx hb dX4_angleOf_65 (lv_at hl 0 rfl) ?_
        refine lv_lload hx hb dX4_angleOf_67 (lv_at hl 6 rfl) ?_
        refine W.lcmp hx hb dX4_angleOf_69 ?_
        refine lv_if_le (tgt := 78) hx hb dX4_angleOf_70 (by decide) (fun c70 => ?_) (fun c70 => ?_)
        ·
          replace c70 := cmp_le.mp c70
          refine lv_iload hx hb dX4_angleOf_78 (lv_at hl 5 rfl) ?_
          refine lv_istore (lv' := [(6, .int (nI bst)), (10, .long rr), (0, .ref (ad 0)), (1, .int x), (2, .long (tAh κ i)), (4, .long (tAc κ i)), (7, .long mo), (9, .int (nI j))]) hx hb dX4_angleOf_80 hl (by decide) rfl (fun ls hl => ?_)
          refine lv_lload hx hb dX4_angleOf_82 (lv_at hl 1 rfl) ?_
          refine lv_lload hx hb dX4_angleOf_84 (lv_at hl 6 rfl) ?_
          refine W.lcmp hx hb dX4_angleOf_86 ?_
          refine lv_if_le (tgt := 95) hx hb dX4_angleOf_87 (by decide) (fun c87 => ?_) (fun c87 => absurd (cmp_le.mpr c70) c87)
          replace c87 := cmp_le.mp c87
          refine lv_lload hx hb dX4_angleOf_95 (lv_at hl 6 rfl) ?_
          refine lv_lstore (lv' := [(7, .long mo), (6, .int (nI bst)), (10, .long rr), (0, .ref (ad 0)), (1, .int x), (2, .long (tAh κ i)), (4, .long (tAc κ i)), (9, .int (nI j))]) hx hb dX4_angleOf_97 hl (by decide) rfl (fun ls hl => ?_)
          refine lv_iinc (v := nI (j + 1)) (lv' := [(9, .int (nI (j + 1))), (7, .long mo), (6, .int (nI bst)), (10, .long rr), (0, .ref (ad 0)), (1, .int x), (2, .long (tAh κ i)), (4, .long (tAc κ i))]) hx hb dX4_angleOf_99 hl (k := 7) rfl (nI_1 j) (by decide) rfl (fun ls hl => ?_)
          refine lv_goto (tgt := 37) hx hb dX4_angleOf_102 (by decide) ?_
          exact ih37 (j + 1) bst mo (by omega) (by omega) (mB_n hj1 hbm hmo err c70) hmo (by omega) _ (lv_sub hl [4, 5, 6, 7, 2, 1, 0] rfl)
        ·
          replace c70 := mt cmp_le.mpr c70
          refine lv_iload hx hb dX4_angleOf_73 (lv_at hl 7 rfl) ?_
          refine lv_goto (tgt := 80) hx hb dX4_angleOf_75 (by decide) ?_
          refine lv_istore (lv' := [(6, .int (nI j)), (10, .long rr), (0, .ref (ad 0)), (1, .int x), (2, .long (tAh κ i)), (4, .long (tAc κ i)), (7, .long mo), (9, .int (nI j))]) hx hb dX4_angleOf_80 hl (by decide) rfl (fun ls hl => ?_)
          refine lv_lload hx hb dX4_angleOf_82 (lv_at hl 1 rfl) ?_
          refine lv_lload hx hb dX4_angleOf_84 (lv_at hl 6 rfl) ?_
          refine W.lcmp hx hb dX4_angleOf_86 ?_
          refine lv_if_le (tgt := 95) hx hb dX4_angleOf_87 (by decide) (fun c87 => absurd c87 (mt cmp_le.mp c70)) (fun c87 => ?_)
          replace c87 := mt cmp_le.mpr c87
          refine lv_lload hx hb dX4_angleOf_90 (lv_at hl 1 rfl) ?_
          refine lv_goto (tgt := 97) hx hb dX4_angleOf_92 (by decide) ?_
          refine lv_lstore (lv' := [(7, .long rr), (6, .int (nI j)), (10, .long rr), (0, .ref (ad 0)), (1, .int x), (2, .long (tAh κ i)), (4, .long (tAc κ i)), (9, .int (nI j))]) hx hb dX4_angleOf_97 hl (by decide) rfl (fun ls hl => ?_)
          refine lv_iinc (v := nI (j + 1)) (lv' := [(9, .int (nI (j + 1))), (7, .long rr), (6, .int (nI j)), (10, .long rr), (0, .ref (ad 0)), (1, .int x), (2, .long (tAh κ i)), (4, .long (tAc κ i))]) hx hb dX4_angleOf_99 hl (k := 7) rfl (nI_1 j) (by decide) rfl (fun ls hl => ?_)
          refine lv_goto (tgt := 37) hx hb dX4_angleOf_102 (by decide) ?_
          exact ih37 (j + 1) j rr (by omega) (by omega) (mB_y hj1 hbm hmo err c70) err (by omega) _ (lv_sub hl [4, 5, 6, 7, 2, 1, 0] rfl)
  exact loop37 361 1 0 m0 (by omega) (by omega) rfl em0 (by omega) _ (lv_sub hl [5, 6, 4, 3, 2, 1, 0] rfl)
set_option maxRecDepth 100000 in
set_option maxHeartbeats 4000000 in
theorem c_X4_sideOf (l : Launch) (D : sD) (B : Nat) (ad : Nat → Nat) (rf : Int32) (κ : sQ) (x : Int32) (i : Nat) (hx9 : x = nI i) (hi60 : i < 60) : Met l yX4_sideOf wsX4_sideOf ({ frames := 5, cells := 0, slots := 0, locals := 117 } : Room) (sP D B (MW D ad rf κ) ([.ref (ad 0), .int x] : List Value)) (vp_Si (fun rr => rr = sdI (tWa κ i))) 0 0 (fun _ => False) := by
  refine s_head (cc := cX4_sideOf) (maxL := 3) (ret := (some .int)) (by decide +kernel) rfl (Nat.le_of_ble_eq_true rfl) ?_
  intro p e s m below meth c hx hb hr hlk hml hown hnm hts hB0 ls hl
  have hJ := hB0
  have hown : s.vm.findClass RX4 = some m.cls := hown
  have hl : lv_has ls 3 [(0, .ref (ad 0)), (1, .int x)] := hl
  refine lv_aload_n hx hb dX4_sideOf_0 rfl (lv_at hl 0 rfl) ?_
  refine lv_iload_n hx hb dX4_sideOf_1 rfl (lv_at hl 1 rfl) ?_
  refine s_ciV (As := [.int x]) (rest := []) ⟨hx, hb, hml, hown, hts⟩ (c_X4_angleOf l D B ad rf κ x i (by assumption) (by assumption)) (cwV 1 hts gX4_sideOf_X4_angleOf rfl rfl rfl hdV_X4_angleOf ⟨Nat.le_of_ble_eq_true rfl, Nat.le_of_ble_eq_true rfl⟩) (sPV hJ (ci := 4) (q0 := 0) rfl rfl) rfl hl.1 rfl (Nat.le_of_ble_eq_true rfl) dX4_sideOf_2 ⟨Nat.le_of_ble_eq_true rfl, Nat.le_of_ble_eq_true rfl⟩ ?_
  refine lv_istore_n (lv' := [(2, .int (tWa κ i)), (0, .ref (ad 0)), (1, .int x)]) hx hb dX4_sideOf_5 rfl hl (by decide) rfl (fun ls hl => ?_)
  refine lv_iload_n hx hb dX4_sideOf_6 rfl (lv_at hl 0 rfl) ?_
  refine lv_sipush (v := 180) hx hb dX4_sideOf_7 (by decide +kernel) ?_
  refine lv_irem hx hb dX4_sideOf_10 (by decide +kernel) ?_
  refine lv_if_ne (tgt := 18) hx hb dX4_sideOf_11 (by decide) (fun c11 => ?_) (fun c11 => ?_)
  ·
    refine lv_iload_n hx hb dX4_sideOf_18 rfl (lv_at hl 0 rfl) ?_
    refine lv_sipush (v := 180) hx hb dX4_sideOf_19 (by decide +kernel) ?_
    refine lv_icmp_ge (tgt := 29) hx hb dX4_sideOf_22 (by decide) (fun c22 => ?_) (fun c22 => ?_)
    ·
      refine lv_iconst (v := 2) hx hb dX4_sideOf_29 (by decide +kernel) ?_
      exact s_iret hx hb hr hlk dX4_sideOf_30 ((side_x (ANG_lt _ _)).2.2 c11 c22)
    ·
      refine lv_iconst (v := 1) hx hb dX4_sideOf_25 (by decide +kernel) ?_
      refine lv_goto (tgt := 30) hx hb dX4_sideOf_26 (by decide) ?_
      exact s_iret hx hb hr hlk dX4_sideOf_30 ((side_x (ANG_lt _ _)).2.1 c11 c22)
  ·
    refine lv_iconst (v := 0) hx hb dX4_sideOf_14 (by decide +kernel) ?_
    refine lv_goto (tgt := 30) hx hb dX4_sideOf_15 (by decide) ?_
    exact s_iret hx hb hr hlk dX4_sideOf_30 ((side_x (ANG_lt _ _)).1 c11)
set_option maxRecDepth 100000 in
set_option maxHeartbeats 4000000 in
theorem c_X4_field (l : Launch) (D : sD) (B : Nat) (ad : Nat → Nat) (rf : Int32) (κ : sQ) (x : Int32) (y : Int32) (n : Nat) (hn9 : κ 0 0 = nI n) (hn60 : n ≤ 60) (hok : ∀ i, i < n → tOk κ i) : Met l yX4_field wsX4_field ({ frames := 5, cells := 0, slots := 0, locals := 117 } : Room) (sP D B (MW D ad rf κ) ([.ref (ad 0), .int x, .int y] : List Value)) (vp_Si (fun rr => rr = fmx (tSp κ) (tWs κ) (tWa κ) x y n)) 0 0 (fun _ => False) := by
  refine s_head (cc := cX4_field) (maxL := 7) (ret := (some .int)) (by decide +kernel) rfl (Nat.le_of_ble_eq_true rfl) ?_
  intro p e s m below meth c hx hb hr hlk hml hown hnm hts hB0 ls hl
  have hJ := hB0
  have hown : s.vm.findClass RX4 = some m.cls := hown
  have hl : lv_has ls 7 [(0, .ref (ad 0)), (1, .int x), (2, .int y)] := hl
  have k42 : (Cond.fieldLink RX4 42 "SailLogModel" "entries" "I").before ([.ref (ad 0), .int x, .int y] : List Value).toArray s = true := hts _ (by decide +kernel)
  have i4 : ∀ w ∈ wsX40, w ∈ wsX4_field := by decide +kernel
  refine lv_iconst (v := 0) hx hb dX4_field_0 (by decide +kernel) ?_
  refine lv_istore_n (lv' := [(3, .int 0), (0, .ref (ad 0)), (1, .int x), (2, .int y)]) hx hb dX4_field_1 rfl hl (by decide) rfl (fun ls hl => ?_)
  refine lv_iconst (v := 0) hx hb dX4_field_2 (by decide +kernel) ?_
  refine lv_istore (lv' := [(4, .int 0), (3, .int 0), (0, .ref (ad 0)), (1, .int x), (2, .int y)]) hx hb dX4_field_3 hl (by decide) rfl (fun ls hl => ?_)
  have loop5 : ∀ (fuel : Nat) (j : Nat) (g : Int32) (hj : j ≤ n) (hg : fmx (tSp κ) (tWs κ) (tWa κ) x y j = g) (hfu : n + 1 ≤ j + fuel) (ls : Array Slot), lv_has ls 7 [(0, .ref (ad 0)), (1, .int x), (2, .int y), (3, .int g), (4, .int (nI j))] → W p l e ({ frames := 5, cells := 0, slots := 0, locals := 117 } : Room) s m ([.ref (ad 0), .int x, .int y] : List Value).toArray below meth c s.heap [] 0 0 (MQ below (vp_Si (fun rr => rr = fmx (tSp κ) (tWs κ) (tWa κ) x y n)) ([.ref (ad 0), .int x, .int y] : List Value).toArray s 0 0 (fun _ => False)) (F0 m 5 ls []) := by
    intro fuel
    induction fuel with
    | zero => intro j g hj hg hfu ls hl; exact absurd (hfu) (by omega)
    | succ fuel ih5 =>
      intro j g hj hg hfu ls hl
      refine lv_iload hx hb dX4_field_5 (lv_at hl 4 rfl) ?_
      refine lv_aload_n hx hb dX4_field_7 rfl (lv_at hl 0 rfl) ?_
      refine g4_1 hx hb hts i4 hown hJ k42 dX4_field_8 ?_
      refine lv_icmp_ge (tgt := 105) hx hb dX4_field_11 (by decide) (fun c11 => ?_) (fun c11 => ?_)
      ·
        refine lv_iload_n hx hb dX4_field_105 rfl (lv_at hl 3 rfl) ?_
        exact s_iret hx hb hr hlk dX4_field_106 (by rw [hn9] at c11; rw [← hg, show j = n from by have := (nI_leI (a := n) (b := j) (by omega) (by omega)).mp c11; omega])
      ·
        rw [hn9] at c11
        have hj2 : j < n := by have := mt (nI_leI (a := n) (b := j) (by omega) (by omega)).mpr c11; omega
        have hi60 : j < 60 := by omega
        have hokj := hok j hj2
        refine lv_aload_n hx hb dX4_field_14 rfl (lv_at hl 0 rfl) ?_
        have j42 : ∀ (w9 : Int32) (hw9 : w9 = colI (tWs κ j)) (ls : Array Slot), lv_has ls 7 [(0, .ref (ad 0)), (1, .int x), (2, .int y), (3, .int g), (4, .int (nI j))] → W p l e ({ frames := 5, cells := 0, slots := 0, locals := 117 } : Room) s m ([.ref (ad 0), .int x, .int y] : List Value).toArray below meth c s.heap [] 0 0 (MQ below (vp_Si (fun rr => rr = fmx (tSp κ) (tWs κ) (tWa κ) x y n)) ([.ref (ad 0), .int x, .int y] : List Value).toArray s 0 0 (fun _ => False)) (F0 m 42 ls [.int w9]) := by
          intro w9 hw9 ls hl
          subst hw9
          refine lv_istore (lv' := [(5, .int (colI (tWs κ j))), (0, .ref (ad 0)), (1, .int x), (2, .int y), (3, .int g), (4, .int (nI j))]) hx hb dX4_field_42 hl (by decide) rfl (fun ls hl => ?_)
          have j71 : ∀ (q9 : Int32) (hq9 : q9 = bI (rowI (tWa κ j) = x ∧ colI (tWs κ j) = y)) (ls : Array Slot), lv_has ls 7 [(5, .int (colI (tWs κ j))), (0, .ref (ad 0)), (1, .int x), (2, .int y), (3, .int g), (4, .int (nI j))] → W p l e ({ frames := 5, cells := 0, slots := 0, locals := 117 } : Room) s m ([.ref (ad 0), .int x, .int y] : List Value).toArray below meth c s.heap [] 0 0 (MQ below (vp_Si (fun rr => rr = fmx (tSp κ) (tWs κ) (tWa κ) x y n)) ([.ref (ad 0), .int x, .int y] : List Value).toArray s 0 0 (fun _ => False)) (F0 m 71 ls [.int q9]) := by
            intro q9 hq9 ls hl
            subst hq9
            refine lv_istore (lv' := [(6, .int (bI (rowI (tWa κ j) = x ∧ colI (tWs κ j) = y))), (5, .int (colI (tWs κ j))), (0, .ref (ad 0)), (1, .int x), (2, .int y), (3, .int g), (4, .int (nI j))]) hx hb dX4_field_71 hl (by decide) rfl (fun ls hl => ?_)
            refine lv_iload hx hb dX4_field_73 (lv_at hl 0 rfl) ?_
            refine lv_if_eq (tgt := 97) hx hb dX4_field_75 (by decide) (fun c75 => ?_) (fun c75 => ?_)
            ·
              replace c75 := bI_0.mp c75
              refine lv_iload_n hx hb dX4_field_97 rfl (lv_at hl 5 rfl) ?_
              refine lv_istore_n (lv' := [(3, .int g), (6, .int (bI (rowI (tWa κ j) = x ∧ colI (tWs κ j) = y))), (5, .int (colI (tWs κ j))), (0, .ref (ad 0)), (1, .int x), (2, .int y), (4, .int (nI j))]) hx hb dX4_field_98 rfl hl (by decide) rfl (fun ls hl => ?_)
              refine lv_iinc (v := nI (j + 1)) (lv' := [(4, .int (nI (j + 1))), (3, .int g), (6, .int (bI (rowI (tWa κ j) = x ∧ colI (tWs κ j) = y))), (5, .int (colI (tWs κ j))), (0, .ref (ad 0)), (1, .int x), (2, .int y)]) hx hb dX4_field_99 hl (k := 6) rfl (nI_1 j) (by decide) rfl (fun ls hl => ?_)
              refine lv_goto (tgt := 5) hx hb dX4_field_102 (by decide) ?_
              exact ih5 (j + 1) g (by omega) (fmx_no hg c75) (by omega) _ (lv_sub hl [4, 5, 6, 1, 0] rfl)
            ·
              replace c75 := bI_n0.mp c75
              refine lv_aload_n hx hb dX4_field_78 rfl (lv_at hl 2 rfl) ?_
              refine lv_iload hx hb dX4_field_79 (lv_at hl 6 rfl) ?_
              refine s_ciV (As := [.int (nI j)]) (rest := []) ⟨hx, hb, hml, hown, hts⟩ (c_X4_trueSpeed l D B ad rf κ (nI j) j (rfl) (hi60)) (cwV 1 hts gX4_field_X4_trueSpeed rfl rfl rfl hdV_X4_trueSpeed ⟨Nat.le_of_ble_eq_true rfl, Nat.le_of_ble_eq_true rfl⟩) (sPV hJ (ci := 4) (q0 := 0) rfl rfl) rfl hl.1 rfl (Nat.le_of_ble_eq_true rfl) dX4_field_81 ⟨Nat.le_of_ble_eq_true rfl, Nat.le_of_ble_eq_true rfl⟩ ?_
              refine lv_iload_n hx hb dX4_field_84 rfl (lv_at hl 5 rfl) ?_
              refine lv_icmp_le (tgt := 97) hx hb dX4_field_85 (by decide) (fun c85 => ?_) (fun c85 => ?_)
              ·
                refine lv_iload_n hx hb dX4_field_97 rfl (lv_at hl 5 rfl) ?_
                refine lv_istore_n (lv' := [(3, .int g), (6, .int (bI (rowI (tWa κ j) = x ∧ colI (tWs κ j) = y))), (5, .int (colI (tWs κ j))), (0, .ref (ad 0)), (1, .int x), (2, .int y), (4, .int (nI j))]) hx hb dX4_field_98 rfl hl (by decide) rfl (fun ls hl => ?_)
                refine lv_iinc (v := nI (j + 1)) (lv' := [(4, .int (nI (j + 1))), (3, .int g), (6, .int (bI (rowI (tWa κ j) = x ∧ colI (tWs κ j) = y))), (5, .int (colI (tWs κ j))), (0, .ref (ad 0)), (1, .int x), (2, .int y)]) hx hb dX4_field_99 hl (k := 6) rfl (nI_1 j) (by decide) rfl (fun ls hl => ?_)
                refine lv_goto (tgt := 5) hx hb dX4_field_102 (by decide) ?_
                exact ih5 (j + 1) g (by omega) (fmx_keep hg c85) (by omega) _ (lv_sub hl [4, 5, 6, 1, 0] rfl)
              ·
                refine lv_aload_n hx hb dX4_field_88 rfl (lv_at hl 2 rfl) ?_
                refine lv_iload hx hb dX4_field_89 (lv_at hl 6 rfl) ?_
                refine s_ciV (As := [.int (nI j)]) (rest := []) ⟨hx, hb, hml, hown, hts⟩ (c_X4_trueSpeed l D B ad rf κ (nI j) j (rfl) (hi60)) (cwV 1 hts gX4_field_X4_trueSpeed rfl rfl rfl hdV_X4_trueSpeed ⟨Nat.le_of_ble_eq_true rfl, Nat.le_of_ble_eq_true rfl⟩) (sPV hJ (ci := 4) (q0 := 0) rfl rfl) rfl hl.1 rfl (Nat.le_of_ble_eq_true rfl) dX4_field_91 ⟨Nat.le_of_ble_eq_true rfl, Nat.le_of_ble_eq_true rfl⟩ ?_
                refine lv_goto (tgt := 98) hx hb dX4_field_94 (by decide) ?_
                refine lv_istore_n (lv' := [(3, .int (tSp κ j)), (6, .int (bI (rowI (tWa κ j) = x ∧ colI (tWs κ j) = y))), (5, .int (colI (tWs κ j))), (0, .ref (ad 0)), (1, .int x), (2, .int y), (4, .int (nI j))]) hx hb dX4_field_98 rfl hl (by decide) rfl (fun ls hl => ?_)
                refine lv_iinc (v := nI (j + 1)) (lv' := [(4, .int (nI (j + 1))), (3, .int (tSp κ j)), (6, .int (bI (rowI (tWa κ j) = x ∧ colI (tWs κ j) = y))), (5, .int (colI (tWs κ j))), (0, .ref (ad 0)), (1, .int x), (2, .int y)]) hx hb dX4_field_99 hl (k := 6) rfl (nI_1 j) (by decide) rfl (fun ls hl => ?_)
                refine lv_goto (tgt := 5) hx hb dX4_field_102 (by decide) ?_
                exact ih5 (j + 1) (tSp κ j) (by omega) (fmx_new hg c75 c85) (by omega) _ (lv_sub hl [4, 5, 6, 1, 0] rfl)
          refine lv_iload hx hb dX4_field_44 (lv_at hl 0 rfl) ?_
          refine lv_iload_n hx hb dX4_field_46 rfl (lv_at hl 3 rfl) ?_
          refine lv_icmp_ne (tgt := 70) hx hb dX4_field_47 (by decide) (fun c47 => ?_) (fun c47 => ?_)
          ·
            refine lv_iconst (v := 0) hx hb dX4_field_70 (by decide +kernel) ?_
            exact j71 0 ((bI_f (fun q => c47 q.2)).symm) _ (lv_sub hl [0, 1, 2, 3, 4, 5] rfl)
          ·
            refine lv_aload_n hx hb dX4_field_50 rfl (lv_at hl 1 rfl) ?_
            refine lv_iload hx hb dX4_field_51 (lv_at hl 5 rfl) ?_
            refine s_ciV (As := [.int (nI j)]) (rest := []) ⟨hx, hb, hml, hown, hts⟩ (c_X4_angleOf l D B ad rf κ (nI j) j (rfl) (hi60)) (cwV 1 hts gX4_field_X4_angleOf rfl rfl rfl hdV_X4_angleOf ⟨Nat.le_of_ble_eq_true rfl, Nat.le_of_ble_eq_true rfl⟩) (sPV hJ (ci := 4) (q0 := 0) rfl rfl) rfl hl.1 rfl (Nat.le_of_ble_eq_true rfl) dX4_field_53 ⟨Nat.le_of_ble_eq_true rfl, Nat.le_of_ble_eq_true rfl⟩ ?_
            refine s_ciS (As := [.int (tWa κ j)]) (rest := []) ⟨hx, hb, hml, hown, hts⟩ (c_X4_opened l (tWa κ j) ) (va_cwS 1 hts gX4_field_X4_opened rfl rfl rfl hdS_X4_opened ⟨Nat.le_of_ble_eq_true rfl, Nat.le_of_ble_eq_true rfl⟩) sPS0 rfl hl.1 rfl (Nat.le_of_ble_eq_true rfl) dX4_field_56 ⟨Nat.le_of_ble_eq_true rfl, Nat.le_of_ble_eq_true rfl⟩ ?_
            refine lv_bipush (v := 10) hx hb dX4_field_59 (by decide +kernel) ?_
            refine lv_idiv hx hb dX4_field_61 (by decide +kernel) ?_
            refine lv_iload_n hx hb dX4_field_62 rfl (lv_at hl 2 rfl) ?_
            refine lv_icmp_ne (tgt := 70) hx hb dX4_field_63 (by decide) (fun c63 => ?_) (fun c63 => ?_)
            ·
              refine lv_iconst (v := 0) hx hb dX4_field_70 (by decide +kernel) ?_
              exact j71 0 ((bI_f (fun q => c63 q.1)).symm) _ (lv_sub hl [0, 1, 2, 3, 4, 5] rfl)
            ·
              refine lv_iconst (v := 1) hx hb dX4_field_66 (by decide +kernel) ?_
              refine lv_goto (tgt := 71) hx hb dX4_field_67 (by decide) ?_
              exact j71 1 ((bI_t ⟨c63, c47⟩).symm) _ (lv_sub hl [0, 1, 2, 3, 4, 5] rfl)
        refine lv_iload hx hb dX4_field_15 (lv_at hl 4 rfl) ?_
        refine s_ciV (As := [.int (nI j)]) (rest := []) ⟨hx, hb, hml, hown, hts⟩ (c_X4_strengthOf l D B ad rf κ (nI j) j (rfl) (hi60) (hokj)) (cwV 1 hts gX4_field_X4_strengthOf rfl rfl rfl hdV_X4_strengthOf ⟨Nat.le_of_ble_eq_true rfl, Nat.le_of_ble_eq_true rfl⟩) (sPV hJ (ci := 4) (q0 := 0) rfl rfl) rfl hl.1 rfl (Nat.le_of_ble_eq_true rfl) dX4_field_17 ⟨Nat.le_of_ble_eq_true rfl, Nat.le_of_ble_eq_true rfl⟩ ?_
        refine lv_bipush (v := 40) hx hb dX4_field_20 (by decide +kernel) ?_
        refine lv_idiv hx hb dX4_field_22 (by decide +kernel) ?_
        refine lv_bipush (v := 10) hx hb dX4_field_23 (by decide +kernel) ?_
        refine lv_icmp_ge (tgt := 40) hx hb dX4_field_25 (by decide) (fun c25 => ?_) (fun c25 => ?_)
        ·
          refine lv_bipush (v := 9) hx hb dX4_field_40 (by decide +kernel) ?_
          exact j42 9 (col_a c25) _ (lv_sub hl [0, 1, 2, 3, 4] rfl)
        ·
          refine lv_aload_n hx hb dX4_field_28 rfl (lv_at hl 0 rfl) ?_
          refine lv_iload hx hb dX4_field_29 (lv_at hl 4 rfl) ?_
          refine s_ciV (As := [.int (nI j)]) (rest := []) ⟨hx, hb, hml, hown, hts⟩ (c_X4_strengthOf l D B ad rf κ (nI j) j (rfl) (hi60) (hokj)) (cwV 1 hts gX4_field_X4_strengthOf rfl rfl rfl hdV_X4_strengthOf ⟨Nat.le_of_ble_eq_true rfl, Nat.le_of_ble_eq_true rfl⟩) (sPV hJ (ci := 4) (q0 := 0) rfl rfl) rfl hl.1 rfl (Nat.le_of_ble_eq_true rfl) dX4_field_31 ⟨Nat.le_of_ble_eq_true rfl, Nat.le_of_ble_eq_true rfl⟩ ?_
          refine lv_bipush (v := 40) hx hb dX4_field_34 (by decide +kernel) ?_
          refine lv_idiv hx hb dX4_field_36 (by decide +kernel) ?_
          refine lv_goto (tgt := 42) hx hb dX4_field_37 (by decide) ?_
          exact j42 ((tWs κ j) / 40) (col_b c25) _ (lv_sub hl [0, 1, 2, 3, 4] rfl)
  exact loop5 (n + 1) 0 0 (by omega) rfl (by omega) _ (lv_sub hl [2, 3, 4, 1, 0] rfl)
set_option maxRecDepth 100000 in
set_option maxHeartbeats 4000000 in
theorem c_X4_turnOf (l : Launch) (D : sD) (B : Nat) (ad : Nat → Nat) (rf : Int32) (κ : sQ) (x : Int32) (i : Nat) (hx9 : x = nI i) (hi60 : i < 60) : Met l yX4_turnOf wsX4_turnOf ({ frames := 6, cells := 0, slots := 0, locals := 139 } : Room) (sP D B (MW D ad rf κ) ([.ref (ad 0), .int x] : List Value)) (vp_Si (fun rr => rr = kindF (tWa κ) i)) 0 0 (fun _ => False) := by
  refine s_head (cc := cX4_turnOf) (maxL := 4) (ret := (some .int)) (by decide +kernel) rfl (Nat.le_of_ble_eq_true rfl) ?_
  intro p e s m below meth c hx hb hr hlk hml hown hnm hts hB0 ls hl
  have hJ := hB0
  have hown : s.vm.findClass RX4 = some m.cls := hown
  have hl : lv_has ls 4 [(0, .ref (ad 0)), (1, .int x)] := hl
  refine lv_iload_n hx hb dX4_turnOf_0 rfl (lv_at hl 1 rfl) ?_
  refine lv_if_ne (tgt := 6) hx hb dX4_turnOf_1 (by decide) (fun c1 => ?_) (fun c1 => ?_)
  ·
    have hz : ¬ i = 0 := fun q => c1 (by rw [hx9, q]; decide +kernel)
    have hx91 : x - 1 = nI (i - 1) := by rw [hx9]; exact nI_pre (by omega)
    have hi61 : i - 1 < 60 := by omega
    refine lv_aload_n hx hb dX4_turnOf_6 rfl (lv_at hl 0 rfl) ?_
    refine lv_iload_n hx hb dX4_turnOf_7 rfl (lv_at hl 1 rfl) ?_
    refine s_ciV (As := [.int x]) (rest := []) ⟨hx, hb, hml, hown, hts⟩ (c_X4_sideOf l D B ad rf κ x i (hx9) (hi60)) (cwV 1 hts gX4_turnOf_X4_sideOf rfl rfl rfl hdV_X4_sideOf ⟨Nat.le_of_ble_eq_true rfl, Nat.le_of_ble_eq_true rfl⟩) (sPV hJ (ci := 4) (q0 := 0) rfl rfl) rfl hl.1 rfl (Nat.le_of_ble_eq_true rfl) dX4_turnOf_8 ⟨Nat.le_of_ble_eq_true rfl, Nat.le_of_ble_eq_true rfl⟩ ?_
    refine lv_istore_n (lv' := [(2, .int (sdI (tWa κ i))), (0, .ref (ad 0)), (1, .int x)]) hx hb dX4_turnOf_11 rfl hl (by decide) rfl (fun ls hl => ?_)
    refine lv_aload_n hx hb dX4_turnOf_12 rfl (lv_at hl 1 rfl) ?_
    refine lv_iload_n hx hb dX4_turnOf_13 rfl (lv_at hl 2 rfl) ?_
    refine lv_iconst (v := 1) hx hb dX4_turnOf_14 (by decide +kernel) ?_
    refine lv_isub hx hb dX4_turnOf_15 ?_
    refine s_ciV (As := [.int (x - 1)]) (rest := []) ⟨hx, hb, hml, hown, hts⟩ (c_X4_sideOf l D B ad rf κ (x - 1) (i - 1) (hx91) (hi61)) (cwV 1 hts gX4_turnOf_X4_sideOf rfl rfl rfl hdV_X4_sideOf ⟨Nat.le_of_ble_eq_true rfl, Nat.le_of_ble_eq_true rfl⟩) (sPV hJ (ci := 4) (q0 := 0) rfl rfl) rfl hl.1 rfl (Nat.le_of_ble_eq_true rfl) dX4_turnOf_16 ⟨Nat.le_of_ble_eq_true rfl, Nat.le_of_ble_eq_true rfl⟩ ?_
    refine lv_istore_n (lv' := [(3, .int (sdI (tWa κ (i - 1)))), (2, .int (sdI (tWa κ i))), (0, .ref (ad 0)), (1, .int x)]) hx hb dX4_turnOf_19 rfl hl (by decide) rfl (fun ls hl => ?_)
    refine lv_iload_n hx hb dX4_turnOf_20 rfl (lv_at hl 1 rfl) ?_
    refine lv_if_eq (tgt := 33) hx hb dX4_turnOf_21 (by decide) (fun c21 => ?_) (fun c21 => ?_)
    ·
      refine lv_iconst (v := 0) hx hb dX4_turnOf_33 (by decide +kernel) ?_
      exact s_iret hx hb hr hlk dX4_turnOf_34 (kind_n hz (Or.inl c21))
    ·
      refine lv_iload_n hx hb dX4_turnOf_24 rfl (lv_at hl 0 rfl) ?_
      refine lv_if_eq (tgt := 33) hx hb dX4_turnOf_25 (by decide) (fun c25 => ?_) (fun c25 => ?_)
      ·
        refine lv_iconst (v := 0) hx hb dX4_turnOf_33 (by decide +kernel) ?_
        exact s_iret hx hb hr hlk dX4_turnOf_34 (kind_n hz (Or.inr (Or.inl c25)))
      ·
        refine lv_iload_n hx hb dX4_turnOf_28 rfl (lv_at hl 1 rfl) ?_
        refine lv_iload_n hx hb dX4_turnOf_29 rfl (lv_at hl 0 rfl) ?_
        refine lv_icmp_ne (tgt := 35) hx hb dX4_turnOf_30 (by decide) (fun c30 => ?_) (fun c30 => ?_)
        ·
          refine lv_aload_n hx hb dX4_turnOf_35 rfl (lv_at hl 2 rfl) ?_
          refine lv_iload_n hx hb dX4_turnOf_36 rfl (lv_at hl 3 rfl) ?_
          refine s_ciV (As := [.int x]) (rest := []) ⟨hx, hb, hml, hown, hts⟩ (c_X4_angleOf l D B ad rf κ x i (hx9) (hi60)) (cwV 1 hts gX4_turnOf_X4_angleOf rfl rfl rfl hdV_X4_angleOf ⟨Nat.le_of_ble_eq_true rfl, Nat.le_of_ble_eq_true rfl⟩) (sPV hJ (ci := 4) (q0 := 0) rfl rfl) rfl hl.1 rfl (Nat.le_of_ble_eq_true rfl) dX4_turnOf_37 ⟨Nat.le_of_ble_eq_true rfl, Nat.le_of_ble_eq_true rfl⟩ ?_
          refine s_ciS (As := [.int (tWa κ i)]) (rest := []) ⟨hx, hb, hml, hown, hts⟩ (c_X4_opened l (tWa κ i) ) (va_cwS 1 hts gX4_turnOf_X4_opened rfl rfl rfl hdS_X4_opened ⟨Nat.le_of_ble_eq_true rfl, Nat.le_of_ble_eq_true rfl⟩) sPS0 rfl hl.1 rfl (Nat.le_of_ble_eq_true rfl) dX4_turnOf_40 ⟨Nat.le_of_ble_eq_true rfl, Nat.le_of_ble_eq_true rfl⟩ ?_
          refine lv_aload_n hx hb dX4_turnOf_43 rfl (lv_at hl 2 rfl) ?_
          refine lv_iload_n hx hb dX4_turnOf_44 rfl (lv_at hl 3 rfl) ?_
          refine lv_iconst (v := 1) hx hb dX4_turnOf_45 (by decide +kernel) ?_
          refine lv_isub hx hb dX4_turnOf_46 ?_
          refine s_ciV (As := [.int (x - 1)]) (rest := [.int (opn (tWa κ i))]) ⟨hx, hb, hml, hown, hts⟩ (c_X4_angleOf l D B ad rf κ (x - 1) (i - 1) (hx91) (hi61)) (cwV 1 hts gX4_turnOf_X4_angleOf rfl rfl rfl hdV_X4_angleOf ⟨Nat.le_of_ble_eq_true rfl, Nat.le_of_ble_eq_true rfl⟩) (sPV hJ (ci := 4) (q0 := 0) rfl rfl) rfl hl.1 rfl (Nat.le_of_ble_eq_true rfl) dX4_turnOf_47 ⟨Nat.le_of_ble_eq_true rfl, Nat.le_of_ble_eq_true rfl⟩ ?_
          refine s_ciS (As := [.int (tWa κ (i - 1))]) (rest := [.int (opn (tWa κ i))]) ⟨hx, hb, hml, hown, hts⟩ (c_X4_opened l (tWa κ (i - 1)) ) (va_cwS 1 hts gX4_turnOf_X4_opened rfl rfl rfl hdS_X4_opened ⟨Nat.le_of_ble_eq_true rfl, Nat.le_of_ble_eq_true rfl⟩) sPS0 rfl hl.1 rfl (Nat.le_of_ble_eq_true rfl) dX4_turnOf_50 ⟨Nat.le_of_ble_eq_true rfl, Nat.le_of_ble_eq_true rfl⟩ ?_
          refine lv_iadd hx hb dX4_turnOf_53 ?_
          refine lv_sipush (v := 180) hx hb dX4_turnOf_54 (by decide +kernel) ?_
          refine lv_icmp_ge (tgt := 64) hx hb dX4_turnOf_57 (by decide) (fun c57 => ?_) (fun c57 => ?_)
          ·
            refine lv_iconst (v := 2) hx hb dX4_turnOf_64 (by decide +kernel) ?_
            exact s_iret hx hb hr hlk dX4_turnOf_65 (kind_g hz c21 c25 c30 (by rw [Int32.add_comm]; exact c57))
          ·
            refine lv_iconst (v := 1) hx hb dX4_turnOf_60 (by decide +kernel) ?_
            refine lv_goto (tgt := 65) hx hb dX4_turnOf_61 (by decide) ?_
            exact s_iret hx hb hr hlk dX4_turnOf_65 (kind_t hz c21 c25 c30 (by rw [Int32.add_comm]; exact c57))
        ·
          refine lv_iconst (v := 0) hx hb dX4_turnOf_33 (by decide +kernel) ?_
          exact s_iret hx hb hr hlk dX4_turnOf_34 (kind_n hz (Or.inr (Or.inr c30)))
  ·
    refine lv_iconst (v := 0) hx hb dX4_turnOf_4 (by decide +kernel) ?_
    exact s_iret hx hb hr hlk dX4_turnOf_5 (kind_0 (by rw [hx9] at c1; exact (nI_z (by omega)).mp c1))
set_option maxRecDepth 100000 in
set_option maxHeartbeats 4000000 in
theorem c_X4_costOf (l : Launch) (D : sD) (B : Nat) (ad : Nat → Nat) (rf : Int32) (κ : sQ) (x : Int32) (i : Nat) (n : Nat) (hn9 : κ 0 0 = nI n) (hn60 : n ≤ 60) (hx9 : x = nI i) (hi : i < n) (hi1 : 1 ≤ i) : Met l yX4_costOf wsX4_costOf ({ frames := 1, cells := 0, slots := 0, locals := 21 } : Room) (sP D B (MW D ad rf κ) ([.ref (ad 0), .int x] : List Value)) (vp_Si (fun rr => rr = slowS (κ 1) (tSp κ) (tSp κ (i - 1)) i (endF n i - i))) 0 0 (fun _ => False) := by
  refine s_head (cc := cX4_costOf) (maxL := 5) (ret := (some .int)) (by decide +kernel) rfl (Nat.le_of_ble_eq_true rfl) ?_
  intro p e s m below meth c hx hb hr hlk hml hown hnm hts hB0 ls hl
  have hJ := hB0
  have hown : s.vm.findClass RX4 = some m.cls := hown
  have hl : lv_has ls 5 [(0, .ref (ad 0)), (1, .int x)] := hl
  have k42 : (Cond.fieldLink RX4 42 "SailLogModel" "entries" "I").before ([.ref (ad 0), .int x] : List Value).toArray s = true := hts _ (by decide +kernel)
  have i4 : ∀ w ∈ wsX40, w ∈ wsX4_costOf := by decide +kernel
  have k7 : (Cond.fieldLink RX4 7 "SailLogModel" "minutes" "[I").before ([.ref (ad 0), .int x] : List Value).toArray s = true := hts _ (by decide +kernel)
  have he9 : i ≤ endF n i := by unfold endF; split <;> omega
  have hen : endF n i ≤ n := by unfold endF; split <;> omega
  refine lv_iconst (v := 0) hx hb dX4_costOf_0 (by decide +kernel) ?_
  refine lv_istore_n (lv' := [(2, .int 0), (0, .ref (ad 0)), (1, .int x)]) hx hb dX4_costOf_1 rfl hl (by decide) rfl (fun ls hl => ?_)
  refine lv_iload_n hx hb dX4_costOf_2 rfl (lv_at hl 2 rfl) ?_
  refine lv_topi (fun zz ezz => ?_)
  obtain rfl : zz = nI i := ezz.trans (hx9)
  refine lv_istore_n (lv' := [(3, .int (nI i)), (2, .int 0), (0, .ref (ad 0)), (1, .int x)]) hx hb dX4_costOf_3 rfl hl (by decide) rfl (fun ls hl => ?_)
  have loop4 : ∀ (fuel : Nat) (j : Nat) (sm : Int32) (hj : i + j ≤ endF n i) (hs : slowS (κ 1) (tSp κ) (tSp κ (i - 1)) i j = sm) (hfu : endF n i + 1 ≤ i + j + fuel) (ls : Array Slot), lv_has ls 5 [(0, .ref (ad 0)), (1, .int x), (2, .int sm), (3, .int (nI (i + j)))] → W p l e ({ frames := 1, cells := 0, slots := 0, locals := 21 } : Room) s m ([.ref (ad 0), .int x] : List Value).toArray below meth c s.heap [] 0 0 (MQ below (vp_Si (fun rr => rr = slowS (κ 1) (tSp κ) (tSp κ (i - 1)) i (endF n i - i))) ([.ref (ad 0), .int x] : List Value).toArray s 0 0 (fun _ => False)) (F0 m 4 ls []) := by
    intro fuel
    induction fuel with
    | zero => intro j sm hj hs hfu ls hl; exact absurd (hfu) (by omega)
    | succ fuel ih4 =>
      intro j sm hj hs hfu ls hl
      refine lv_iload_n hx hb dX4_costOf_4 rfl (lv_at hl 3 rfl) ?_
      refine lv_iload_n hx hb dX4_costOf_5 rfl (lv_at hl 1 rfl) ?_
      refine lv_iconst (v := 3) hx hb dX4_costOf_6 (by decide +kernel) ?_
      refine lv_iadd hx hb dX4_costOf_7 ?_
      refine lv_icmp_ge (tgt := 70) hx hb dX4_costOf_8 (by decide) (fun c8 => ?_) (fun c8 => ?_)
      ·
        refine lv_iload_n hx hb dX4_costOf_70 rfl (lv_at hl 2 rfl) ?_
        exact s_iret hx hb hr hlk dX4_costOf_71 (by rw [← hs, show endF n i - i = j from by have e3 : x + 3 = nI (i + 3) := (by rw [hx9, show (3 : Int32) = nI 3 from by decide +kernel, nI_add]); rw [e3] at c8; have := (nI_leI (a := i + 3) (b := i + j) (by omega) (by omega)).mp c8; unfold endF at hj ⊢; split at hj <;> split <;> omega])
      ·
        have hx3 : x + 3 = nI (i + 3) := by rw [hx9, show (3 : Int32) = nI 3 from by decide +kernel, nI_add]
        rw [hx3] at c8
        refine lv_iload_n hx hb dX4_costOf_11 rfl (lv_at hl 3 rfl) ?_
        refine lv_aload_n hx hb dX4_costOf_12 rfl (lv_at hl 0 rfl) ?_
        refine g4_1 hx hb hts i4 hown hJ k42 dX4_costOf_13 ?_
        refine lv_icmp_ge (tgt := 70) hx hb dX4_costOf_16 (by decide) (fun c16 => ?_) (fun c16 => ?_)
        ·
          refine lv_iload_n hx hb dX4_costOf_70 rfl (lv_at hl 2 rfl) ?_
          exact s_iret hx hb hr hlk dX4_costOf_71 (by rw [hn9] at c16; rw [← hs, show endF n i - i = j from by have := (nI_leI (a := n) (b := i + j) (by omega) (by omega)).mp c16; unfold endF at hj ⊢; split at hj <;> split <;> omega])
        ·
          rw [hn9] at c16
          have hj2 : i + j < n := by have := mt (nI_leI (a := n) (b := i + j) (by omega) (by omega)).mpr c16; omega
          have hj3 : i + j < i + 3 := by have := mt (nI_leI (a := i + 3) (b := i + j) (by omega) (by omega)).mpr c8; omega
          have hj4 : i + j < endF n i := by unfold endF; split <;> omega
          refine lv_aload_n hx hb dX4_costOf_19 rfl (lv_at hl 0 rfl) ?_
          refine lv_iload_n hx hb dX4_costOf_20 rfl (lv_at hl 1 rfl) ?_
          refine lv_iconst (v := 1) hx hb dX4_costOf_21 (by decide +kernel) ?_
          refine lv_isub hx hb dX4_costOf_22 ?_
          refine s_ciV (As := [.int (x - 1)]) (rest := []) ⟨hx, hb, hml, hown, hts⟩ (c_X4_trueSpeed l D B ad rf κ (x - 1) (i - 1) (by rw [hx9]; exact nI_pre hi1) (by omega)) (cwV 1 hts gX4_costOf_X4_trueSpeed rfl rfl rfl hdV_X4_trueSpeed ⟨Nat.le_of_ble_eq_true rfl, Nat.le_of_ble_eq_true rfl⟩) (sPV hJ (ci := 4) (q0 := 0) rfl rfl) rfl hl.1 rfl (Nat.le_of_ble_eq_true rfl) dX4_costOf_23 ⟨Nat.le_of_ble_eq_true rfl, Nat.le_of_ble_eq_true rfl⟩ ?_
          refine lv_aload_n hx hb dX4_costOf_26 rfl (lv_at hl 0 rfl) ?_
          refine lv_iload_n hx hb dX4_costOf_27 rfl (lv_at hl 3 rfl) ?_
          refine s_ciV (As := [.int (nI (i + j))]) (rest := [.int (tSp κ (i - 1))]) ⟨hx, hb, hml, hown, hts⟩ (c_X4_trueSpeed l D B ad rf κ (nI (i + j)) (i + j) (rfl) (by omega)) (cwV 1 hts gX4_costOf_X4_trueSpeed rfl rfl rfl hdV_X4_trueSpeed ⟨Nat.le_of_ble_eq_true rfl, Nat.le_of_ble_eq_true rfl⟩) (sPV hJ (ci := 4) (q0 := 0) rfl rfl) rfl hl.1 rfl (Nat.le_of_ble_eq_true rfl) dX4_costOf_28 ⟨Nat.le_of_ble_eq_true rfl, Nat.le_of_ble_eq_true rfl⟩ ?_
          refine lv_isub hx hb dX4_costOf_31 ?_
          refine lv_istore (lv' := [(4, .int ((tSp κ (i - 1)) - (tSp κ (i + j)))), (0, .ref (ad 0)), (1, .int x), (2, .int sm), (3, .int (nI (i + j)))]) hx hb dX4_costOf_32 hl (by decide) rfl (fun ls hl => ?_)
          refine lv_iload_n hx hb dX4_costOf_34 rfl (lv_at hl 3 rfl) ?_
          refine lv_iload hx hb dX4_costOf_35 (lv_at hl 0 rfl) ?_
          refine lv_if_le (tgt := 61) hx hb dX4_costOf_37 (by decide) (fun c37 => ?_) (fun c37 => ?_)
          ·
            refine lv_iconst (v := 0) hx hb dX4_costOf_61 (by decide +kernel) ?_
            refine lv_iadd hx hb dX4_costOf_62 ?_
            refine lv_istore_n (lv' := [(2, .int (sm + 0)), (4, .int ((tSp κ (i - 1)) - (tSp κ (i + j)))), (0, .ref (ad 0)), (1, .int x), (3, .int (nI (i + j)))]) hx hb dX4_costOf_63 rfl hl (by decide) rfl (fun ls hl => ?_)
            refine lv_iinc (v := nI (i + (j + 1))) (lv' := [(3, .int (nI (i + (j + 1)))), (2, .int (sm + 0)), (4, .int ((tSp κ (i - 1)) - (tSp κ (i + j)))), (0, .ref (ad 0)), (1, .int x)]) hx hb dX4_costOf_64 hl (k := 4) rfl (nI_1 (i + j)) (by decide) rfl (fun ls hl => ?_)
            refine lv_goto (tgt := 4) hx hb dX4_costOf_67 (by decide) ?_
            exact ih4 (j + 1) _ (by omega) (slow_m hs c37) (by omega) _ (lv_sub hl [3, 4, 1, 0] rfl)
          ·
            refine lv_iload hx hb dX4_costOf_40 (lv_at hl 0 rfl) ?_
            refine lv_aload_n hx hb dX4_costOf_42 rfl (lv_at hl 1 rfl) ?_
            refine g4_2 hx hb hts i4 hown hJ k7 dX4_costOf_43 ?_
            refine lv_iload_n hx hb dX4_costOf_46 rfl (lv_at hl 4 rfl) ?_
            refine b_1 (k := i + j) hx hb hJ (rfl) (by omega) dX4_costOf_47 ?_
            refine lv_aload_n hx hb dX4_costOf_48 rfl (lv_at hl 1 rfl) ?_
            refine g4_2 hx hb hts i4 hown hJ k7 dX4_costOf_49 ?_
            refine lv_iload_n hx hb dX4_costOf_52 rfl (lv_at hl 4 rfl) ?_
            refine lv_iconst (v := 1) hx hb dX4_costOf_53 (by decide +kernel) ?_
            refine lv_isub hx hb dX4_costOf_54 ?_
            refine b_1 (k := i + j - 1) hx hb hJ (nI_pre (by omega)) (by omega) dX4_costOf_55 ?_
            refine lv_isub hx hb dX4_costOf_56 ?_
            refine lv_imul hx hb dX4_costOf_57 ?_
            refine lv_goto (tgt := 62) hx hb dX4_costOf_58 (by decide) ?_
            refine lv_iadd hx hb dX4_costOf_62 ?_
            refine lv_istore_n (lv' := [(2, .int (sm + (((tSp κ (i - 1)) - (tSp κ (i + j))) * ((κ 1 (i + j)) - (κ 1 (i + j - 1)))))), (4, .int ((tSp κ (i - 1)) - (tSp κ (i + j)))), (0, .ref (ad 0)), (1, .int x), (3, .int (nI (i + j)))]) hx hb dX4_costOf_63 rfl hl (by decide) rfl (fun ls hl => ?_)
            refine lv_iinc (v := nI (i + (j + 1))) (lv' := [(3, .int (nI (i + (j + 1)))), (2, .int (sm + (((tSp κ (i - 1)) - (tSp κ (i + j))) * ((κ 1 (i + j)) - (κ 1 (i + j - 1)))))), (4, .int ((tSp κ (i - 1)) - (tSp κ (i + j)))), (0, .ref (ad 0)), (1, .int x)]) hx hb dX4_costOf_64 hl (k := 4) rfl (nI_1 (i + j)) (by decide) rfl (fun ls hl => ?_)
            refine lv_goto (tgt := 4) hx hb dX4_costOf_67 (by decide) ?_
            exact ih4 (j + 1) _ (by omega) (slow_p hs c37) (by omega) _ (lv_sub hl [3, 4, 1, 0] rfl)
  exact loop4 (endF n i + 1) 0 0 (by omega) rfl (by omega) _ (lv_sub hl [2, 3, 1, 0] rfl)
set_option maxRecDepth 100000 in
set_option maxHeartbeats 4000000 in
theorem c_X4_way (l : Launch) (D : sD) (B : Nat) (ad : Nat → Nat) (rf : Int32) (κ : sQ) (x : Int32) (t : Int32) (n : Nat) (i : Nat) (hn9 : κ 0 0 = nI n) (hn60 : n ≤ 60) (hx9 : x = nI i) (hi : i < n) (hmi : ∀ i, i < n → ∃ k, k < 1440 ∧ κ 1 i = nI k) : Met l yX4_way wsX4_way ({ frames := 2, cells := 0, slots := 0, locals := 45 } : Room) (sP D B (MW D ad rf κ) ([.ref (ad 0), .int x, .int t] : List Value)) (vp_Si (fun rr => rr = (wD (wayS (κ 1) (tSp κ) (tHd κ) (κ 6) (κ 7) t i)).toInt32)) 0 0 (fun _ => False) := by
  refine s_head (cc := cX4_way) (maxL := 9) (ret := (some .int)) (by decide +kernel) rfl (Nat.le_of_ble_eq_true rfl) ?_
  intro p e s m below meth c hx hb hr hlk hml hown hnm hts hB0 ls hl
  have hJ := hB0
  have hown : s.vm.findClass RX4 = some m.cls := hown
  have hl : lv_has ls 9 [(0, .ref (ad 0)), (1, .int x), (2, .int t)] := hl
  have k125 : (Cond.constantLong RX4 125 (5999)).before ([.ref (ad 0), .int x, .int t] : List Value).toArray s = true := hts _ (by decide +kernel)
  have k123 : (Cond.constantLong RX4 123 (6000)).before ([.ref (ad 0), .int x, .int t] : List Value).toArray s = true := hts _ (by decide +kernel)
  have k7 : (Cond.fieldLink RX4 7 "SailLogModel" "minutes" "[I").before ([.ref (ad 0), .int x, .int t] : List Value).toArray s = true := hts _ (by decide +kernel)
  have i4 : ∀ w ∈ wsX40, w ∈ wsX4_way := by decide +kernel
  have k32 : (Cond.fieldLink RX4 32 "SailLogModel" "drifts" "[I").before ([.ref (ad 0), .int x, .int t] : List Value).toArray s = true := hts _ (by decide +kernel)
  have k29 : (Cond.fieldLink RX4 29 "SailLogModel" "directions" "[I").before ([.ref (ad 0), .int x, .int t] : List Value).toArray s = true := hts _ (by decide +kernel)
  refine lv_lconst (v := 0) hx hb dX4_way_0 (by decide +kernel) ?_
  refine lv_lstore_n (lv' := [(3, .long 0), (0, .ref (ad 0)), (1, .int x), (2, .int t)]) hx hb dX4_way_1 rfl hl (by decide) rfl (fun ls hl => ?_)
  refine lv_iconst (v := 0) hx hb dX4_way_2 (by decide +kernel) ?_
  refine lv_istore (lv' := [(5, .int 0), (3, .long 0), (0, .ref (ad 0)), (1, .int x), (2, .int t)]) hx hb dX4_way_3 hl (by decide) rfl (fun ls hl => ?_)
  have loop5 : ∀ (fuel : Nat) (j : Nat) (sm : Int64) (hj : j ≤ i) (hs : wayS (κ 1) (tSp κ) (tHd κ) (κ 6) (κ 7) t j = sm) (hfu : i + 1 ≤ j + fuel) (ls : Array Slot), lv_has ls 9 [(0, .ref (ad 0)), (1, .int x), (2, .int t), (3, .long sm), (5, .int (nI j))] → W p l e ({ frames := 2, cells := 0, slots := 0, locals := 45 } : Room) s m ([.ref (ad 0), .int x, .int t] : List Value).toArray below meth c s.heap [] 0 0 (MQ below (vp_Si (fun rr => rr = (wD (wayS (κ 1) (tSp κ) (tHd κ) (κ 6) (κ 7) t i)).toInt32)) ([.ref (ad 0), .int x, .int t] : List Value).toArray s 0 0 (fun _ => False)) (F0 m 5 ls []) := by
    intro fuel
    induction fuel with
    | zero => intro j sm hj hs hfu ls hl; exact absurd (hfu) (by omega)
    | succ fuel ih5 =>
      intro j sm hj hs hfu ls hl
      refine lv_iload hx hb dX4_way_5 (lv_at hl 4 rfl) ?_
      refine lv_iload_n hx hb dX4_way_7 rfl (lv_at hl 1 rfl) ?_
      refine lv_icmp_ge (tgt := 98) hx hb dX4_way_8 (by decide) (fun c8 => ?_) (fun c8 => ?_)
      ·
        rw [hx9] at c8
        have hji : i = j := by have := (nI_leI (a := i) (b := j) (by omega) (by omega)).mp c8; omega
        refine lv_lload_n hx hb dX4_way_98 rfl (lv_at hl 3 rfl) ?_
        refine lv_lconst (v := 0) hx hb dX4_way_99 (by decide +kernel) ?_
        refine W.lcmp hx hb dX4_way_100 ?_
        refine lv_if_lt (tgt := 112) hx hb dX4_way_101 (by decide) (fun c101 => ?_) (fun c101 => ?_)
        ·
          replace c101 := cmp_lt.mp c101
          refine lv_ldc2 (own := RX4) hx hb hown k125 dX4_way_112 ?_
          refine lv_lload_n hx hb dX4_way_115 rfl (lv_at hl 3 rfl) ?_
          refine lv_lsub hx hb dX4_way_116 ?_
          refine lv_ldc2 (own := RX4) hx hb hown k123 dX4_way_117 ?_
          refine lv_ldiv hx hb dX4_way_120 (by decide +kernel) ?_
          refine lv_lneg hx hb dX4_way_121 ?_
          refine lv_l2i hx hb dX4_way_122 rfl ?_
          exact s_iret hx hb hr hlk dX4_way_123 (by rw [hji, hs]; exact congrArg Int64.toInt32 (wD_a c101))
        ·
          replace c101 := mt cmp_lt.mpr c101
          refine lv_lload_n hx hb dX4_way_104 rfl (lv_at hl 3 rfl) ?_
          refine lv_ldc2 (own := RX4) hx hb hown k123 dX4_way_105 ?_
          refine lv_ldiv hx hb dX4_way_108 (by decide +kernel) ?_
          refine lv_goto (tgt := 122) hx hb dX4_way_109 (by decide) ?_
          refine lv_l2i hx hb dX4_way_122 rfl ?_
          exact s_iret hx hb hr hlk dX4_way_123 (by rw [hji, hs]; exact congrArg Int64.toInt32 (wD_b c101))
      ·
        rw [hx9] at c8
        have hj2 : j < i := by have := mt (nI_leI (a := i) (b := j) (by omega) (by omega)).mpr c8; omega
        have hi60 : j < 60 := by omega
        obtain ⟨eh, hh24⟩ := hN_ok (hmi j (by omega))
        refine lv_aload_n hx hb dX4_way_11 rfl (lv_at hl 0 rfl) ?_
        refine g4_2 hx hb hts i4 hown hJ k7 dX4_way_12 ?_
        refine lv_iload hx hb dX4_way_15 (lv_at hl 4 rfl) ?_
        refine b_1 (k := j) hx hb hJ (rfl) (by omega) dX4_way_17 ?_
        refine lv_bipush (v := 60) hx hb dX4_way_18 (by decide +kernel) ?_
        refine lv_idiv hx hb dX4_way_20 (by decide +kernel) ?_
        refine lv_istore (lv' := [(6, .int ((κ 1 j) / 60)), (0, .ref (ad 0)), (1, .int x), (2, .int t), (3, .long sm), (5, .int (nI j))]) hx hb dX4_way_21 hl (by decide) rfl (fun ls hl => ?_)
        refine lv_aload_n hx hb dX4_way_23 rfl (lv_at hl 1 rfl) ?_
        refine lv_iload hx hb dX4_way_24 (lv_at hl 5 rfl) ?_
        refine s_ciV (As := [.int (nI j)]) (rest := []) ⟨hx, hb, hml, hown, hts⟩ (c_X4_trueSpeed l D B ad rf κ (nI j) j (rfl) (hi60)) (cwV 1 hts gX4_way_X4_trueSpeed rfl rfl rfl hdV_X4_trueSpeed ⟨Nat.le_of_ble_eq_true rfl, Nat.le_of_ble_eq_true rfl⟩) (sPV hJ (ci := 4) (q0 := 0) rfl rfl) rfl hl.1 rfl (Nat.le_of_ble_eq_true rfl) dX4_way_26 ⟨Nat.le_of_ble_eq_true rfl, Nat.le_of_ble_eq_true rfl⟩ ?_
        refine lv_i2l hx hb dX4_way_29 rfl ?_
        refine lv_aload_n hx hb dX4_way_30 rfl (lv_at hl 1 rfl) ?_
        refine lv_iload hx hb dX4_way_31 (lv_at hl 5 rfl) ?_
        refine s_ciV (As := [.int (nI j)]) (rest := [.long ((tSp κ j).toInt64)]) ⟨hx, hb, hml, hown, hts⟩ (c_X4_trueHeading l D B ad rf κ (nI j) j (rfl) (hi60)) (cwV 1 hts gX4_way_X4_trueHeading rfl rfl rfl hdV_X4_trueHeading ⟨Nat.le_of_ble_eq_true rfl, Nat.le_of_ble_eq_true rfl⟩) (sPV hJ (ci := 4) (q0 := 0) rfl rfl) rfl hl.1 rfl (Nat.le_of_ble_eq_true rfl) dX4_way_33 ⟨Nat.le_of_ble_eq_true rfl, Nat.le_of_ble_eq_true rfl⟩ ?_
        refine lv_iload_n hx hb dX4_way_36 rfl (lv_at hl 3 rfl) ?_
        refine lv_iadd hx hb dX4_way_37 ?_
        refine s_ciS (As := [.int ((tHd κ j) + t)]) (rest := [.long ((tSp κ j).toInt64)]) ⟨hx, hb, hml, hown, hts⟩ (c_X4_sin l ((tHd κ j) + t) ) (va_cwS 1 hts gX4_way_X4_sin rfl rfl rfl hdS_X4_sin ⟨Nat.le_of_ble_eq_true rfl, Nat.le_of_ble_eq_true rfl⟩) sPS0 rfl hl.1 rfl (Nat.le_of_ble_eq_true rfl) dX4_way_38 ⟨Nat.le_of_ble_eq_true rfl, Nat.le_of_ble_eq_true rfl⟩ ?_
        refine lv_i2l hx hb dX4_way_41 rfl ?_
        refine lv_lmul hx hb dX4_way_42 ?_
        refine lv_aload_n hx hb dX4_way_43 rfl (lv_at hl 1 rfl) ?_
        refine g4_11 hx hb hts i4 hown hJ k32 dX4_way_44 ?_
        refine lv_iload hx hb dX4_way_47 (lv_at hl 0 rfl) ?_
        refine b_7 (k := hN (κ 1 j)) hx hb hJ (eh) (hh24) dX4_way_49 ?_
        refine lv_i2l hx hb dX4_way_50 rfl ?_
        refine lv_aload_n hx hb dX4_way_51 rfl (lv_at hl 1 rfl) ?_
        refine g4_10 hx hb hts i4 hown hJ k29 dX4_way_52 ?_
        refine lv_iload hx hb dX4_way_55 (lv_at hl 0 rfl) ?_
        refine b_6 (k := hN (κ 1 j)) hx hb hJ (eh) (hh24) dX4_way_57 ?_
        refine lv_iload_n hx hb dX4_way_58 rfl (lv_at hl 3 rfl) ?_
        refine lv_iadd hx hb dX4_way_59 ?_
        refine s_ciS (As := [.int ((κ 6 (hN (κ 1 j))) + t)]) (rest := [.long ((κ 7 (hN (κ 1 j))).toInt64), .long (((tSp κ j).toInt64) * ((sn ((tHd κ j) + t)).toInt64))]) ⟨hx, hb, hml, hown, hts⟩ (c_X4_sin l ((κ 6 (hN (κ 1 j))) + t) ) (va_cwS 1 hts gX4_way_X4_sin rfl rfl rfl hdS_X4_sin ⟨Nat.le_of_ble_eq_true rfl, Nat.le_of_ble_eq_true rfl⟩) sPS0 rfl hl.1 rfl (Nat.le_of_ble_eq_true rfl) dX4_way_60 ⟨Nat.le_of_ble_eq_true rfl, Nat.le_of_ble_eq_true rfl⟩ ?_
        refine lv_i2l hx hb dX4_way_63 rfl ?_
        refine lv_lmul hx hb dX4_way_64 ?_
        refine lv_ladd hx hb dX4_way_65 ?_
        refine lv_lstore (lv' := [(7, .long ((((tSp κ j).toInt64) * ((sn ((tHd κ j) + t)).toInt64)) + (((κ 7 (hN (κ 1 j))).toInt64) * ((sn ((κ 6 (hN (κ 1 j))) + t)).toInt64)))), (6, .int ((κ 1 j) / 60)), (0, .ref (ad 0)), (1, .int x), (2, .int t), (3, .long sm), (5, .int (nI j))]) hx hb dX4_way_66 hl (by decide) rfl (fun ls hl => ?_)
        refine lv_lload_n hx hb dX4_way_68 rfl (lv_at hl 5 rfl) ?_
        refine lv_lload hx hb dX4_way_69 (lv_at hl 0 rfl) ?_
        refine lv_aload_n hx hb dX4_way_71 rfl (lv_at hl 2 rfl) ?_
        refine g4_2 hx hb hts i4 hown hJ k7 dX4_way_72 ?_
        refine lv_iload hx hb dX4_way_75 (lv_at hl 6 rfl) ?_
        refine lv_iconst (v := 1) hx hb dX4_way_77 (by decide +kernel) ?_
        refine lv_iadd hx hb dX4_way_78 ?_
        refine b_1 (k := j + 1) hx hb hJ (nI_1 j) (by omega) dX4_way_79 ?_
        refine lv_aload_n hx hb dX4_way_80 rfl (lv_at hl 2 rfl) ?_
        refine g4_2 hx hb hts i4 hown hJ k7 dX4_way_81 ?_
        refine lv_iload hx hb dX4_way_84 (lv_at hl 6 rfl) ?_
        refine b_1 (k := j) hx hb hJ (rfl) (by omega) dX4_way_86 ?_
        refine lv_isub hx hb dX4_way_87 ?_
        refine lv_i2l hx hb dX4_way_88 rfl ?_
        refine lv_lmul hx hb dX4_way_89 ?_
        refine lv_ladd hx hb dX4_way_90 ?_
        refine lv_lstore_n (lv' := [(3, .long (sm + (((((tSp κ j).toInt64) * ((sn ((tHd κ j) + t)).toInt64)) + (((κ 7 (hN (κ 1 j))).toInt64) * ((sn ((κ 6 (hN (κ 1 j))) + t)).toInt64))) * (((κ 1 (j + 1)) - (κ 1 j)).toInt64)))), (7, .long ((((tSp κ j).toInt64) * ((sn ((tHd κ j) + t)).toInt64)) + (((κ 7 (hN (κ 1 j))).toInt64) * ((sn ((κ 6 (hN (κ 1 j))) + t)).toInt64)))), (6, .int ((κ 1 j) / 60)), (0, .ref (ad 0)), (1, .int x), (2, .int t), (5, .int (nI j))]) hx hb dX4_way_91 rfl hl (by decide) rfl (fun ls hl => ?_)
        refine lv_iinc (v := nI (j + 1)) (lv' := [(5, .int (nI (j + 1))), (3, .long (sm + (((((tSp κ j).toInt64) * ((sn ((tHd κ j) + t)).toInt64)) + (((κ 7 (hN (κ 1 j))).toInt64) * ((sn ((κ 6 (hN (κ 1 j))) + t)).toInt64))) * (((κ 1 (j + 1)) - (κ 1 j)).toInt64)))), (7, .long ((((tSp κ j).toInt64) * ((sn ((tHd κ j) + t)).toInt64)) + (((κ 7 (hN (κ 1 j))).toInt64) * ((sn ((κ 6 (hN (κ 1 j))) + t)).toInt64)))), (6, .int ((κ 1 j) / 60)), (0, .ref (ad 0)), (1, .int x), (2, .int t)]) hx hb dX4_way_92 hl (k := 6) rfl (nI_1 j) (by decide) rfl (fun ls hl => ?_)
        refine lv_goto (tgt := 5) hx hb dX4_way_95 (by decide) ?_
        exact ih5 (j + 1) _ (by omega) (way_s hs) (by omega) _ (lv_sub hl [4, 5, 6, 1, 0] rfl)
  exact loop5 (i + 1) 0 0 (by omega) rfl (by omega) _ (lv_sub hl [2, 3, 4, 1, 0] rfl)
