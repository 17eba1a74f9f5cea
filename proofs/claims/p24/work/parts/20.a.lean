set_option maxRecDepth 100000 in
set_option maxHeartbeats 4000000 in
theorem c_J9_floorMod_7cf53 (l : Launch) (x : Int32) : Met l yJ9_floorMod_7cf53 wsJ9_floorMod_7cf53 ({ frames := 0, cells := 0, slots := 0, locals := 0 } : Room) (va_Pc ([.int x, .int 360] : List Value) (fun _ => True)) (vp_Si (fun rr => rr = t360 x)) 0 0 (fun _ => False) := by
  refine s_headF (cc := cJ9_floorMod_7cf53) (maxL := 3) (ret := (some .int)) (by decide +kernel) rfl (Nat.le_of_ble_eq_true rfl) ?_
  intro p e s m below meth c hx hb hr hlk hml hown hnm hts hB0 ls hl
  have hown : s.vm.findClass RJ9 = some m.cls := hown
  have hl : lv_has ls 3 [(0, .int x), (1, .int 360)] := hl
  refine lv_iload_n hx hb dJ9_floorMod_7cf53_0 rfl (lv_at hl 0 rfl) ?_
  refine lv_iload_n hx hb dJ9_floorMod_7cf53_1 rfl (lv_at hl 1 rfl) ?_
  refine lv_irem hx hb dJ9_floorMod_7cf53_2 (by decide +kernel) ?_
  refine lv_istore_n (lv' := [(2, .int (x - (x / 360) * 360)), (0, .int x), (1, .int 360)]) hx hb dJ9_floorMod_7cf53_3 rfl hl (by decide) rfl (fun ls hl => ?_)
  refine lv_iload_n hx hb dJ9_floorMod_7cf53_4 rfl (lv_at hl 1 rfl) ?_
  refine lv_iload_n hx hb dJ9_floorMod_7cf53_5 rfl (lv_at hl 2 rfl) ?_
  refine lv_ixor hx hb dJ9_floorMod_7cf53_6 ?_
  refine lv_if_ge (tgt := 18) hx hb dJ9_floorMod_7cf53_7 (by decide) (fun c7 => ?_) (fun c7 => ?_)
  ·
    refine lv_iload_n hx hb dJ9_floorMod_7cf53_18 rfl (lv_at hl 0 rfl) ?_
    exact s_iret hx hb hr hlk dJ9_floorMod_7cf53_19 (fm_a c7)
  ·
    refine lv_iload_n hx hb dJ9_floorMod_7cf53_10 rfl (lv_at hl 0 rfl) ?_
    refine lv_if_eq (tgt := 18) hx hb dJ9_floorMod_7cf53_11 (by decide) (fun c11 => ?_) (fun c11 => ?_)
    ·
      refine lv_iload_n hx hb dJ9_floorMod_7cf53_18 rfl (lv_at hl 0 rfl) ?_
      exact s_iret hx hb hr hlk dJ9_floorMod_7cf53_19 (fm_b c7 c11)
    ·
      refine lv_iload_n hx hb dJ9_floorMod_7cf53_14 rfl (lv_at hl 0 rfl) ?_
      refine lv_iload_n hx hb dJ9_floorMod_7cf53_15 rfl (lv_at hl 2 rfl) ?_
      refine lv_iadd hx hb dJ9_floorMod_7cf53_16 ?_
      exact s_iret hx hb hr hlk dJ9_floorMod_7cf53_17 (fm_c c7 c11)
set_option maxRecDepth 100000 in
set_option maxHeartbeats 4000000 in
theorem c_X1_sineOf (l : Launch) (D : sD) (B : Nat) (ad : Nat → Nat) (κ : sQ) (x : Int32) : Met l yX1_sineOf wsX1_sineOf ({ frames := 1, cells := 0, slots := 0, locals := 22 } : Room) (sP D B (CW D ad κ) ([.ref (ad 1), .int x] : List Value)) (vp_Si (fun rr => rr = sn x)) 0 0 (fun _ => False) := by
  refine s_head (cc := cX1_sineOf) (maxL := 2) (ret := (some .int)) (by decide +kernel) rfl (Nat.le_of_ble_eq_true rfl) ?_
  intro p e s m below meth c hx hb hr hlk hml hown hnm hts hB0 ls hl
  have hJ := hB0
  have hown : s.vm.findClass RX1 = some m.cls := hown
  have hl : lv_has ls 2 [(0, .ref (ad 1)), (1, .int x)] := hl
  have k9 : (Cond.fieldLink RX1 9 "SailLog$Circle" "sines" "[I").before ([.ref (ad 1), .int x] : List Value).toArray s = true := hts _ (by decide +kernel)
  have i1 : ∀ w ∈ wsX10, w ∈ wsX1_sineOf := by decide +kernel
  refine lv_aload_n hx hb dX1_sineOf_0 rfl (lv_at hl 0 rfl) ?_
  refine g1_0 hx hb hts i1 hown hJ k9 dX1_sineOf_1 ?_
  refine lv_iload_n hx hb dX1_sineOf_4 rfl (lv_at hl 1 rfl) ?_
  refine lv_sipush (v := 360) hx hb dX1_sineOf_5 (by decide +kernel) ?_
  refine s_ciS (As := [.int x, .int 360]) (rest := [.ref (ad 2)]) ⟨hx, hb, hml, hown, hts⟩ (c_J9_floorMod_7cf53 l x ) (va_cwS 2 hts gX1_sineOf_J9_floorMod_7cf53 rfl rfl rfl hdS_J9_floorMod_7cf53 ⟨Nat.le_of_ble_eq_true rfl, Nat.le_of_ble_eq_true rfl⟩) sPS0 rfl hl.1 rfl (Nat.le_of_ble_eq_true rfl) dX1_sineOf_8 ⟨Nat.le_of_ble_eq_true rfl, Nat.le_of_ble_eq_true rfl⟩ ?_
  refine a_sin (k := k360 x) hx hb hJ (rfl) (by have := k360_lt x; omega) dX1_sineOf_11 ?_
  exact s_iret hx hb hr hlk dX1_sineOf_12 (snT_k x)
set_option maxRecDepth 100000 in
set_option maxHeartbeats 4000000 in
theorem c_X1_cosineOf (l : Launch) (D : sD) (B : Nat) (ad : Nat → Nat) (κ : sQ) (x : Int32) : Met l yX1_cosineOf wsX1_cosineOf ({ frames := 1, cells := 0, slots := 0, locals := 22 } : Room) (sP D B (CW D ad κ) ([.ref (ad 1), .int x] : List Value)) (vp_Si (fun rr => rr = cs x)) 0 0 (fun _ => False) := by
  refine s_head (cc := cX1_cosineOf) (maxL := 2) (ret := (some .int)) (by decide +kernel) rfl (Nat.le_of_ble_eq_true rfl) ?_
  intro p e s m below meth c hx hb hr hlk hml hown hnm hts hB0 ls hl
  have hJ := hB0
  have hown : s.vm.findClass RX1 = some m.cls := hown
  have hl : lv_has ls 2 [(0, .ref (ad 1)), (1, .int x)] := hl
  have k9 : (Cond.fieldLink RX1 9 "SailLog$Circle" "sines" "[I").before ([.ref (ad 1), .int x] : List Value).toArray s = true := hts _ (by decide +kernel)
  have i1 : ∀ w ∈ wsX10, w ∈ wsX1_cosineOf := by decide +kernel
  refine lv_aload_n hx hb dX1_cosineOf_0 rfl (lv_at hl 0 rfl) ?_
  refine g1_0 hx hb hts i1 hown hJ k9 dX1_cosineOf_1 ?_
  refine lv_iload_n hx hb dX1_cosineOf_4 rfl (lv_at hl 1 rfl) ?_
  refine lv_sipush (v := 360) hx hb dX1_cosineOf_5 (by decide +kernel) ?_
  refine s_ciS (As := [.int x, .int 360]) (rest := [.ref (ad 2)]) ⟨hx, hb, hml, hown, hts⟩ (c_J9_floorMod_7cf53 l x ) (va_cwS 2 hts gX1_cosineOf_J9_floorMod_7cf53 rfl rfl rfl hdS_J9_floorMod_7cf53 ⟨Nat.le_of_ble_eq_true rfl, Nat.le_of_ble_eq_true rfl⟩) sPS0 rfl hl.1 rfl (Nat.le_of_ble_eq_true rfl) dX1_cosineOf_8 ⟨Nat.le_of_ble_eq_true rfl, Nat.le_of_ble_eq_true rfl⟩ ?_
  refine lv_bipush (v := 90) hx hb dX1_cosineOf_11 (by decide +kernel) ?_
  refine lv_iadd hx hb dX1_cosineOf_13 ?_
  refine a_sin (k := k360 x + 90) hx hb hJ (nI_add (k360 x) 90) (by have := k360_lt x; omega) dX1_cosineOf_14 ?_
  exact s_iret hx hb hr hlk dX1_cosineOf_15 (snT_c x)
set_option maxRecDepth 100000 in
set_option maxHeartbeats 4000000 in
theorem c_X1_quarterOf (l : Launch) (ah : Int64) (ac : Int64) : Met l yX1_quarterOf wsX1_quarterOf ({ frames := 0, cells := 0, slots := 0, locals := 0 } : Room) (va_Pc ([.long ah, .long ac] : List Value) (fun _ => True)) (vp_Si (fun rr => rr = qtr ah ac)) 0 0 (fun _ => False) := by
  refine s_head (cc := cX1_quarterOf) (maxL := 4) (ret := (some .int)) (by decide +kernel) rfl (Nat.le_of_ble_eq_true rfl) ?_
  intro p e s m below meth c hx hb hr hlk hml hown hnm hts hB0 ls hl
  have hown : s.vm.findClass RX1 = some m.cls := hown
  have hl : lv_has ls 4 [(0, .long ah), (2, .long ac)] := hl
  refine lv_lload_n hx hb dX1_quarterOf_0 rfl (lv_at hl 1 rfl) ?_
  refine lv_lconst (v := 0) hx hb dX1_quarterOf_1 (by decide +kernel) ?_
  refine W.lcmp hx hb dX1_quarterOf_2 ?_
  refine lv_if_lt (tgt := 18) hx hb dX1_quarterOf_3 (by decide) (fun c3 => ?_) (fun c3 => ?_)
  ·
    replace c3 := cmp_lt.mp c3
    refine lv_lload_n hx hb dX1_quarterOf_18 rfl (lv_at hl 0 rfl) ?_
    refine lv_lconst (v := 0) hx hb dX1_quarterOf_19 (by decide +kernel) ?_
    refine W.lcmp hx hb dX1_quarterOf_20 ?_
    refine lv_if_ge (tgt := 28) hx hb dX1_quarterOf_21 (by decide) (fun c21 => ?_) (fun c21 => ?_)
    ·
      replace c21 := cmp_ge.mp c21
      refine lv_iconst (v := 3) hx hb dX1_quarterOf_28 (by decide +kernel) ?_
      exact s_iret hx hb hr hlk dX1_quarterOf_29 (qtr_3 c3 c21)
    ·
      replace c21 := mt cmp_ge.mpr c21
      refine lv_iconst (v := 2) hx hb dX1_quarterOf_24 (by decide +kernel) ?_
      refine lv_goto (tgt := 29) hx hb dX1_quarterOf_25 (by decide) ?_
      exact s_iret hx hb hr hlk dX1_quarterOf_29 (qtr_2 c3 c21)
  ·
    replace c3 := mt cmp_lt.mpr c3
    refine lv_lload_n hx hb dX1_quarterOf_6 rfl (lv_at hl 0 rfl) ?_
    refine lv_lconst (v := 0) hx hb dX1_quarterOf_7 (by decide +kernel) ?_
    refine W.lcmp hx hb dX1_quarterOf_8 ?_
    refine lv_if_lt (tgt := 16) hx hb dX1_quarterOf_9 (by decide) (fun c9 => ?_) (fun c9 => ?_)
    ·
      replace c9 := cmp_lt.mp c9
      refine lv_iconst (v := 1) hx hb dX1_quarterOf_16 (by decide +kernel) ?_
      exact s_iret hx hb hr hlk dX1_quarterOf_17 (qtr_1 c3 c9)
    ·
      replace c9 := mt cmp_lt.mpr c9
      refine lv_iconst (v := 0) hx hb dX1_quarterOf_12 (by decide +kernel) ?_
      refine lv_goto (tgt := 17) hx hb dX1_quarterOf_13 (by decide) ?_
      exact s_iret hx hb hr hlk dX1_quarterOf_17 (qtr_0 c3 c9)
set_option maxRecDepth 100000 in
set_option maxHeartbeats 4000000 in
theorem c_X3_isWithin (l : Launch) (v : Int32) (lo : Int32) (hi : Int32) : Met l yX3_isWithin wsX3_isWithin ({ frames := 0, cells := 0, slots := 0, locals := 0 } : Room) (va_Pc ([.int v, .int lo, .int hi] : List Value) (fun _ => True)) (vp_Si (fun rr => rr = bI (lo ≤ v ∧ v ≤ hi))) 0 0 (fun _ => False) := by
  refine s_head (cc := cX3_isWithin) (maxL := 3) (ret := (some .boolean)) (by decide +kernel) rfl (Nat.le_of_ble_eq_true rfl) ?_
  intro p e s m below meth c hx hb hr hlk hml hown hnm hts hB0 ls hl
  have hown : s.vm.findClass RX3 = some m.cls := hown
  have hl : lv_has ls 3 [(0, .int v), (1, .int lo), (2, .int hi)] := hl
  refine lv_iload_n hx hb dX3_isWithin_0 rfl (lv_at hl 0 rfl) ?_
  refine lv_iload_n hx hb dX3_isWithin_1 rfl (lv_at hl 1 rfl) ?_
  refine lv_icmp_lt (tgt := 14) hx hb dX3_isWithin_2 (by decide) (fun c2 => ?_) (fun c2 => ?_)
  ·
    refine lv_iconst (v := 0) hx hb dX3_isWithin_14 (by decide +kernel) ?_
    exact s_zret hx hb hr hlk dX3_isWithin_15 (Or.inl rfl) (isw_a c2)
  ·
    refine lv_iload_n hx hb dX3_isWithin_5 rfl (lv_at hl 0 rfl) ?_
    refine lv_iload_n hx hb dX3_isWithin_6 rfl (lv_at hl 2 rfl) ?_
    refine lv_icmp_gt (tgt := 14) hx hb dX3_isWithin_7 (by decide) (fun c7 => ?_) (fun c7 => ?_)
    ·
      refine lv_iconst (v := 0) hx hb dX3_isWithin_14 (by decide +kernel) ?_
      exact s_zret hx hb hr hlk dX3_isWithin_15 (Or.inl rfl) (isw_b c7)
    ·
      refine lv_iconst (v := 1) hx hb dX3_isWithin_10 (by decide +kernel) ?_
      refine lv_goto (tgt := 15) hx hb dX3_isWithin_11 (by decide) ?_
      exact s_zret hx hb hr hlk dX3_isWithin_15 (Or.inr rfl) (isw_c c2 c7)
set_option maxRecDepth 100000 in
set_option maxHeartbeats 4000000 in
theorem c_X3_isDirection (l : Launch) (v : Int32) : Met l yX3_isDirection wsX3_isDirection ({ frames := 1, cells := 0, slots := 0, locals := 22 } : Room) (va_Pc ([.int v] : List Value) (fun _ => True)) (vp_Si (fun rr => rr = bI (0 ≤ v ∧ v ≤ 359))) 0 0 (fun _ => False) := by
  refine s_head (cc := cX3_isDirection) (maxL := 1) (ret := (some .boolean)) (by decide +kernel) rfl (Nat.le_of_ble_eq_true rfl) ?_
  intro p e s m below meth c hx hb hr hlk hml hown hnm hts hB0 ls hl
  have hown : s.vm.findClass RX3 = some m.cls := hown
  have hl : lv_has ls 1 [(0, .int v)] := hl
  refine lv_iload_n hx hb dX3_isDirection_0 rfl (lv_at hl 0 rfl) ?_
  refine lv_iconst (v := 0) hx hb dX3_isDirection_1 (by decide +kernel) ?_
  refine lv_sipush (v := 359) hx hb dX3_isDirection_2 (by decide +kernel) ?_
  refine s_ciS (As := [.int v, .int 0, .int 359]) (rest := []) ⟨hx, hb, hml, hown, hts⟩ (c_X3_isWithin l v 0 359 ) (va_cwS 3 hts gX3_isDirection_X3_isWithin rfl rfl rfl hdS_X3_isWithin ⟨Nat.le_of_ble_eq_true rfl, Nat.le_of_ble_eq_true rfl⟩) sPS0 rfl hl.1 rfl (Nat.le_of_ble_eq_true rfl) dX3_isDirection_5 ⟨Nat.le_of_ble_eq_true rfl, Nat.le_of_ble_eq_true rfl⟩ ?_
  exact s_zret hx hb hr hlk dX3_isDirection_8 (bI_or) (rfl)
set_option maxRecDepth 100000 in
set_option maxHeartbeats 4000000 in
theorem c_X3_turned (l : Launch) (a : Int32) (b : Int32) : Met l yX3_turned wsX3_turned ({ frames := 1, cells := 0, slots := 0, locals := 22 } : Room) (va_Pc ([.int a, .int b] : List Value) (fun _ => True)) (vp_Si (fun rr => rr = t360 (a + b))) 0 0 (fun _ => False) := by
  refine s_head (cc := cX3_turned) (maxL := 2) (ret := (some .int)) (by decide +kernel) rfl (Nat.le_of_ble_eq_true rfl) ?_
  intro p e s m below meth c hx hb hr hlk hml hown hnm hts hB0 ls hl
  have hown : s.vm.findClass RX3 = some m.cls := hown
  have hl : lv_has ls 2 [(0, .int a), (1, .int b)] := hl
  refine lv_iload_n hx hb dX3_turned_0 rfl (lv_at hl 0 rfl) ?_
  refine lv_iload_n hx hb dX3_turned_1 rfl (lv_at hl 1 rfl) ?_
  refine lv_iadd hx hb dX3_turned_2 ?_
  refine lv_sipush (v := 360) hx hb dX3_turned_3 (by decide +kernel) ?_
  refine s_ciS (As := [.int (a + b), .int 360]) (rest := []) ⟨hx, hb, hml, hown, hts⟩ (c_J9_floorMod_7cf53 l (a + b) ) (va_cwS 2 hts gX3_turned_J9_floorMod_7cf53 rfl rfl rfl hdS_J9_floorMod_7cf53 ⟨Nat.le_of_ble_eq_true rfl, Nat.le_of_ble_eq_true rfl⟩) sPS0 rfl hl.1 rfl (Nat.le_of_ble_eq_true rfl) dX3_turned_6 ⟨Nat.le_of_ble_eq_true rfl, Nat.le_of_ble_eq_true rfl⟩ ?_
  exact s_iret hx hb hr hlk dX3_turned_9 (rfl)
set_option maxRecDepth 100000 in
set_option maxHeartbeats 4000000 in
theorem c_X3_openAngleOf (l : Launch) (a : Int32) : Met l yX3_openAngleOf wsX3_openAngleOf ({ frames := 1, cells := 0, slots := 0, locals := 13 } : Room) (va_Pc ([.int a] : List Value) (fun _ => True)) (vp_Si (fun rr => rr = opn a)) 0 0 (fun _ => False) := by
  refine s_head (cc := cX3_openAngleOf) (maxL := 1) (ret := (some .int)) (by decide +kernel) rfl (Nat.le_of_ble_eq_true rfl) ?_
  intro p e s m below meth c hx hb hr hlk hml hown hnm hts hB0 ls hl
  have hown : s.vm.findClass RX3 = some m.cls := hown
  have hl : lv_has ls 1 [(0, .int a)] := hl
  have mlmin192 : (Cond.methodLink RX3 192 Lib.Math.min.name).before ([.int a] : List Value).toArray s = true := hts _ (by decide +kernel)
  have msmin0 : (Cond.static Lib.Math.min.name).before ([.int a] : List Value).toArray s = true := hts _ (by decide +kernel)
  have mimin0 : (Cond.initialized "java/lang/Math").before ([.int a] : List Value).toArray s = true := hts _ (by decide +kernel)
  have mcmin0 : (Cond.code Lib.Math.min.name Lib.Math.min.code 2 (some .int)).before ([.int a] : List Value).toArray s = true := hts _ (by decide +kernel)
  refine lv_iload_n hx hb dX3_openAngleOf_0 rfl (lv_at hl 0 rfl) ?_
  refine lv_sipush (v := 360) hx hb dX3_openAngleOf_1 (by decide +kernel) ?_
  refine lv_iload_n hx hb dX3_openAngleOf_4 rfl (lv_at hl 0 rfl) ?_
  refine lv_isub hx hb dX3_openAngleOf_5 ?_
  refine va_mmin hx hb (hml.trans hl.1.symm) hown mlmin192 msmin0 mimin0 mcmin0 (Nat.le_of_ble_eq_true rfl) (Nat.le_of_ble_eq_true rfl) (Nat.le_of_ble_eq_true rfl) (Nat.le_of_ble_eq_true rfl) dX3_openAngleOf_6 ?_
  exact s_iret hx hb hr hlk dX3_openAngleOf_9 (opn_min a)
set_option maxRecDepth 100000 in
set_option maxHeartbeats 4000000 in
theorem c_X3_rowOf (l : Launch) (a : Int32) : Met l yX3_rowOf wsX3_rowOf ({ frames := 0, cells := 0, slots := 0, locals := 0 } : Room) (va_Pc ([.int a] : List Value) (fun _ => True)) (vp_Si (fun rr => rr = a / 10)) 0 0 (fun _ => False) := by
  refine s_head (cc := cX3_rowOf) (maxL := 1) (ret := (some .int)) (by decide +kernel) rfl (Nat.le_of_ble_eq_true rfl) ?_
  intro p e s m below meth c hx hb hr hlk hml hown hnm hts hB0 ls hl
  have hown : s.vm.findClass RX3 = some m.cls := hown
  have hl : lv_has ls 1 [(0, .int a)] := hl
  refine lv_iload_n hx hb dX3_rowOf_0 rfl (lv_at hl 0 rfl) ?_
  refine lv_bipush (v := 10) hx hb dX3_rowOf_1 (by decide +kernel) ?_
  refine lv_idiv hx hb dX3_rowOf_3 (by decide +kernel) ?_
  exact s_iret hx hb hr hlk dX3_rowOf_4 (rfl)
set_option maxRecDepth 100000 in
set_option maxHeartbeats 4000000 in
theorem c_X3_middleOf (l : Launch) (a : Int32) : Met l yX3_middleOf wsX3_middleOf ({ frames := 1, cells := 0, slots := 0, locals := 13 } : Room) (va_Pc ([.int a] : List Value) (fun _ => True)) (vp_Si (fun rr => rr = midI a)) 0 0 (fun _ => False) := by
  refine s_head (cc := cX3_middleOf) (maxL := 1) (ret := (some .int)) (by decide +kernel) rfl (Nat.le_of_ble_eq_true rfl) ?_
  intro p e s m below meth c hx hb hr hlk hml hown hnm hts hB0 ls hl
  have hown : s.vm.findClass RX3 = some m.cls := hown
  have hl : lv_has ls 1 [(0, .int a)] := hl
  have mlmin192 : (Cond.methodLink RX3 192 Lib.Math.min.name).before ([.int a] : List Value).toArray s = true := hts _ (by decide +kernel)
  have msmin0 : (Cond.static Lib.Math.min.name).before ([.int a] : List Value).toArray s = true := hts _ (by decide +kernel)
  have mimin0 : (Cond.initialized "java/lang/Math").before ([.int a] : List Value).toArray s = true := hts _ (by decide +kernel)
  have mcmin0 : (Cond.code Lib.Math.min.name Lib.Math.min.code 2 (some .int)).before ([.int a] : List Value).toArray s = true := hts _ (by decide +kernel)
  refine lv_iload_n hx hb dX3_middleOf_0 rfl (lv_at hl 0 rfl) ?_
  refine lv_bipush (v := 10) hx hb dX3_middleOf_1 (by decide +kernel) ?_
  refine lv_imul hx hb dX3_middleOf_3 ?_
  refine lv_iconst (v := 5) hx hb dX3_middleOf_4 (by decide +kernel) ?_
  refine lv_iadd hx hb dX3_middleOf_5 ?_
  refine lv_sipush (v := 180) hx hb dX3_middleOf_6 (by decide +kernel) ?_
  refine va_mmin hx hb (hml.trans hl.1.symm) hown mlmin192 msmin0 mimin0 mcmin0 (Nat.le_of_ble_eq_true rfl) (Nat.le_of_ble_eq_true rfl) (Nat.le_of_ble_eq_true rfl) (Nat.le_of_ble_eq_true rfl) dX3_middleOf_9 ?_
  exact s_iret hx hb hr hlk dX3_middleOf_12 (rfl)
set_option maxRecDepth 100000 in
set_option maxHeartbeats 4000000 in
theorem c_X2_openAngle (l : Launch) (D : sD) (B : Nat) (ad : Nat → Nat) (κ : sQ) (i : Nat) (hi : i < 60) : Met l yX2_openAngle wsX2_openAngle ({ frames := 2, cells := 0, slots := 0, locals := 33 } : Room) (sP D B (CW D ad κ) ([.ref (ad (8 + i))] : List Value)) (vp_Si (fun rr => rr = opn (κ 12 i))) 0 0 (fun _ => False) := by
  refine s_head (cc := cX2_openAngle) (maxL := 1) (ret := (some .int)) (by decide +kernel) rfl (Nat.le_of_ble_eq_true rfl) ?_
  intro p e s m below meth c hx hb hr hlk hml hown hnm hts hB0 ls hl
  have hJ := hB0
  have hown : s.vm.findClass RX2 = some m.cls := hown
  have hl : lv_has ls 1 [(0, .ref (ad (8 + i)))] := hl
  have k9 : (Cond.fieldLink RX2 9 "SailLog$Entry" "windAngle" "I").before ([.ref (ad (8 + i))] : List Value).toArray s = true := hts _ (by decide +kernel)
  have i2 : ∀ w ∈ wsX20, w ∈ wsX2_openAngle := by decide +kernel
  have nstX3_openAngleOf : (Cond.static yX3_openAngleOf).before ([.ref (ad (8 + i))] : List Value).toArray s = true := hts _ (by decide +kernel)
  have nin : (Cond.initialized RX3).before ([.ref (ad (8 + i))] : List Value).toArray s = true := hts _ (by decide +kernel)
  refine lv_aload_n hx hb dX2_openAngle_0 rfl (lv_at hl 0 rfl) ?_
  refine g2_8 (by omega) hx hb hts i2 hown hJ k9 dX2_openAngle_1 ?_
  refine s_ciN (As := [.int (κ 12 i)]) (rest := []) ⟨hx, hb, hml, hown, hts⟩ (c_X3_openAngleOf l (κ 12 i) ) ⟨va_cnB (host := RX3) 1 hts gX2_openAngle_X3_openAngleOf_n15 rfl rfl rfl (hJ.2.2.2.1.2.1.2.2.2.1) nin hdS_X3_openAngleOf ⟨Nat.le_of_ble_eq_true rfl, Nat.le_of_ble_eq_true rfl⟩, nstX3_openAngleOf, trivial⟩ sPS0 rfl hl.1 rfl (Nat.le_of_ble_eq_true rfl) dX2_openAngle_4 ⟨Nat.le_of_ble_eq_true rfl, Nat.le_of_ble_eq_true rfl⟩ ?_
  exact s_iret hx hb hr hlk dX2_openAngle_7 (rfl)
set_option maxRecDepth 100000 in
set_option maxHeartbeats 4000000 in
theorem c_X2_windSide (l : Launch) (D : sD) (B : Nat) (ad : Nat → Nat) (κ : sQ) (i : Nat) (hi : i < 60) : Met l yX2_windSide wsX2_windSide ({ frames := 0, cells := 0, slots := 0, locals := 0 } : Room) (sP D B (CW D ad κ) ([.ref (ad (8 + i))] : List Value)) (vp_Si (fun rr => rr = sdI (κ 12 i))) 0 0 (fun _ => False) := by
  refine s_head (cc := cX2_windSide) (maxL := 1) (ret := (some .int)) (by decide +kernel) rfl (Nat.le_of_ble_eq_true rfl) ?_
  intro p e s m below meth c hx hb hr hlk hml hown hnm hts hB0 ls hl
  have hJ := hB0
  have hown : s.vm.findClass RX2 = some m.cls := hown
  have hl : lv_has ls 1 [(0, .ref (ad (8 + i)))] := hl
  have k9 : (Cond.fieldLink RX2 9 "SailLog$Entry" "windAngle" "I").before ([.ref (ad (8 + i))] : List Value).toArray s = true := hts _ (by decide +kernel)
  have i2 : ∀ w ∈ wsX20, w ∈ wsX2_windSide := by decide +kernel
  refine lv_aload_n hx hb dX2_windSide_0 rfl (lv_at hl 0 rfl) ?_
  refine g2_8 (by omega) hx hb hts i2 hown hJ k9 dX2_windSide_1 ?_
  refine lv_if_eq (tgt := 17) hx hb dX2_windSide_4 (by decide) (fun c4 => ?_) (fun c4 => ?_)
  ·
    refine lv_iconst (v := 0) hx hb dX2_windSide_17 (by decide +kernel) ?_
    exact s_iret hx hb hr hlk dX2_windSide_18 (sd_a c4)
  ·
    refine lv_aload_n hx hb dX2_windSide_7 rfl (lv_at hl 0 rfl) ?_
    refine g2_8 (by omega) hx hb hts i2 hown hJ k9 dX2_windSide_8 ?_
    refine lv_sipush (v := 180) hx hb dX2_windSide_11 (by decide +kernel) ?_
    refine lv_icmp_ne (tgt := 19) hx hb dX2_windSide_14 (by decide) (fun c14 => ?_) (fun c14 => ?_)
    ·
      refine lv_aload_n hx hb dX2_windSide_19 rfl (lv_at hl 0 rfl) ?_
      refine g2_8 (by omega) hx hb hts i2 hown hJ k9 dX2_windSide_20 ?_
      refine lv_sipush (v := 180) hx hb dX2_windSide_23 (by decide +kernel) ?_
      refine lv_icmp_ge (tgt := 33) hx hb dX2_windSide_26 (by decide) (fun c26 => ?_) (fun c26 => ?_)
      ·
        refine lv_iconst (v := 2) hx hb dX2_windSide_33 (by decide +kernel) ?_
        exact s_iret hx hb hr hlk dX2_windSide_34 (sd_d c4 c14 c26)
      ·
        refine lv_iconst (v := 1) hx hb dX2_windSide_29 (by decide +kernel) ?_
        refine lv_goto (tgt := 34) hx hb dX2_windSide_30 (by decide) ?_
        exact s_iret hx hb hr hlk dX2_windSide_34 (sd_c c4 c14 c26)
    ·
      refine lv_iconst (v := 0) hx hb dX2_windSide_17 (by decide +kernel) ?_
      exact s_iret hx hb hr hlk dX2_windSide_18 (sd_b c14)
set_option maxRecDepth 100000 in
set_option maxHeartbeats 4000000 in
theorem c_X2_row (l : Launch) (D : sD) (B : Nat) (ad : Nat → Nat) (κ : sQ) (i : Nat) (hi : i < 60) : Met l yX2_row wsX2_row ({ frames := 3, cells := 0, slots := 0, locals := 53 } : Room) (sP D B (CW D ad κ) ([.ref (ad (8 + i))] : List Value)) (vp_Si (fun rr => rr = rowI (κ 12 i))) 0 0 (fun _ => False) := by
  refine s_head (cc := cX2_row) (maxL := 1) (ret := (some .int)) (by decide +kernel) rfl (Nat.le_of_ble_eq_true rfl) ?_
  intro p e s m below meth c hx hb hr hlk hml hown hnm hts hB0 ls hl
  have hJ := hB0
  have hown : s.vm.findClass RX2 = some m.cls := hown
  have hl : lv_has ls 1 [(0, .ref (ad (8 + i)))] := hl
  have nstX3_rowOf : (Cond.static yX3_rowOf).before ([.ref (ad (8 + i))] : List Value).toArray s = true := hts _ (by decide +kernel)
  have nin : (Cond.initialized RX3).before ([.ref (ad (8 + i))] : List Value).toArray s = true := hts _ (by decide +kernel)
  refine lv_aload_n hx hb dX2_row_0 rfl (lv_at hl 0 rfl) ?_
  refine s_ciV (As := []) (rest := []) ⟨hx, hb, hml, hown, hts⟩ (c_X2_openAngle l D B ad κ i (by assumption)) (cwV 0 hts gX2_row_X2_openAngle rfl rfl rfl hdV_X2_openAngle ⟨Nat.le_of_ble_eq_true rfl, Nat.le_of_ble_eq_true rfl⟩) (sPV hJ (ci := 2) rfl (CW_e D ad κ (by omega))) rfl hl.1 rfl (Nat.le_of_ble_eq_true rfl) dX2_row_1 ⟨Nat.le_of_ble_eq_true rfl, Nat.le_of_ble_eq_true rfl⟩ ?_
  refine s_ciN (As := [.int (opn (κ 12 i))]) (rest := []) ⟨hx, hb, hml, hown, hts⟩ (c_X3_rowOf l (opn (κ 12 i)) ) ⟨va_cnB (host := RX3) 1 hts gX2_row_X3_rowOf_n23 rfl rfl rfl (hJ.2.2.2.1.2.1.2.2.2.2) nin hdS_X3_rowOf ⟨Nat.le_of_ble_eq_true rfl, Nat.le_of_ble_eq_true rfl⟩, nstX3_rowOf, trivial⟩ sPS0 rfl hl.1 rfl (Nat.le_of_ble_eq_true rfl) dX2_row_4 ⟨Nat.le_of_ble_eq_true rfl, Nat.le_of_ble_eq_true rfl⟩ ?_
  exact s_iret hx hb hr hlk dX2_row_7 (rfl)
set_option maxRecDepth 100000 in
set_option maxHeartbeats 4000000 in
theorem c_X2_column (l : Launch) (D : sD) (B : Nat) (ad : Nat → Nat) (κ : sQ) (i : Nat) (hi : i < 60) : Met l yX2_column wsX2_column ({ frames := 1, cells := 0, slots := 0, locals := 13 } : Room) (sP D B (CW D ad κ) ([.ref (ad (8 + i))] : List Value)) (vp_Si (fun rr => rr = colI (κ 11 i))) 0 0 (fun _ => False) := by
  refine s_head (cc := cX2_column) (maxL := 1) (ret := (some .int)) (by decide +kernel) rfl (Nat.le_of_ble_eq_true rfl) ?_
  intro p e s m below meth c hx hb hr hlk hml hown hnm hts hB0 ls hl
  have hJ := hB0
  have hown : s.vm.findClass RX2 = some m.cls := hown
  have hl : lv_has ls 1 [(0, .ref (ad (8 + i)))] := hl
  have k26 : (Cond.fieldLink RX2 26 "SailLog$Entry" "windStrength" "I").before ([.ref (ad (8 + i))] : List Value).toArray s = true := hts _ (by decide +kernel)
  have i2 : ∀ w ∈ wsX20, w ∈ wsX2_column := by decide +kernel
  have mlmin29 : (Cond.methodLink RX2 29 Lib.Math.min.name).before ([.ref (ad (8 + i))] : List Value).toArray s = true := hts _ (by decide +kernel)
  have msmin0 : (Cond.static Lib.Math.min.name).before ([.ref (ad (8 + i))] : List Value).toArray s = true := hts _ (by decide +kernel)
  have mimin0 : (Cond.initialized "java/lang/Math").before ([.ref (ad (8 + i))] : List Value).toArray s = true := hts _ (by decide +kernel)
  have mcmin0 : (Cond.code Lib.Math.min.name Lib.Math.min.code 2 (some .int)).before ([.ref (ad (8 + i))] : List Value).toArray s = true := hts _ (by decide +kernel)
  refine lv_aload_n hx hb dX2_column_0 rfl (lv_at hl 0 rfl) ?_
  refine g2_7 (by omega) hx hb hts i2 hown hJ k26 dX2_column_1 ?_
  refine lv_bipush (v := 40) hx hb dX2_column_4 (by decide +kernel) ?_
  refine lv_idiv hx hb dX2_column_6 (by decide +kernel) ?_
  refine lv_bipush (v := 9) hx hb dX2_column_7 (by decide +kernel) ?_
  refine va_mmin hx hb (hml.trans hl.1.symm) hown mlmin29 msmin0 mimin0 mcmin0 (Nat.le_of_ble_eq_true rfl) (Nat.le_of_ble_eq_true rfl) (Nat.le_of_ble_eq_true rfl) (Nat.le_of_ble_eq_true rfl) dX2_column_9 ?_
  exact s_iret hx hb hr hlk dX2_column_12 (colI_min _)
set_option maxRecDepth 100000 in
set_option maxHeartbeats 4000000 in
theorem c_X0_kept (l : Launch) (D : sD) (B : Nat) (ad : Nat → Nat) (κ : sQ) (x : Int32) (y : Int32) (r : Nat) (c9 : Nat) (hx9 : x = nI r) (hy9 : y = nI c9) (hr9 : r < 19) (hc9 : c9 < 10) : Met l yX0_kept wsX0_kept ({ frames := 0, cells := 0, slots := 0, locals := 0 } : Room) (sP D B (CW D ad κ) ([.ref (ad 4), .int x, .int y] : List Value)) (vp_Si (fun rr => rr = κ 1 (r * 10 + c9))) 0 0 (fun _ => False) := by
  refine s_head (cc := cX0_kept) (maxL := 3) (ret := (some .int)) (by decide +kernel) rfl (Nat.le_of_ble_eq_true rfl) ?_
  intro p e s m below meth c hx hb hr hlk hml hown hnm hts hB0 ls hl
  have hJ := hB0
  have hown : s.vm.findClass RX0 = some m.cls := hown
  have hl : lv_has ls 3 [(0, .ref (ad 4)), (1, .int x), (2, .int y)] := hl
  have k9 : (Cond.fieldLink RX0 9 "SailLog$BestSpeeds" "fields" "[I").before ([.ref (ad 4), .int x, .int y] : List Value).toArray s = true := hts _ (by decide +kernel)
  have i0 : ∀ w ∈ wsX00, w ∈ wsX0_kept := by decide +kernel
  refine lv_aload_n hx hb dX0_kept_0 rfl (lv_at hl 0 rfl) ?_
  refine g0_0 hx hb hts i0 hown hJ k9 dX0_kept_1 ?_
  refine lv_iload_n hx hb dX0_kept_4 rfl (lv_at hl 1 rfl) ?_
  refine lv_bipush (v := 10) hx hb dX0_kept_5 (by decide +kernel) ?_
  refine lv_imul hx hb dX0_kept_7 ?_
  refine lv_iload_n hx hb dX0_kept_8 rfl (lv_at hl 2 rfl) ?_
  refine lv_iadd hx hb dX0_kept_9 ?_
  refine a_tab (k := r * 10 + c9) hx hb hJ (by rw [hx9, hy9]; exact (congrArg (· + nI c9) (pk_mul r 10)).trans (nI_add _ _)) (by omega) dX0_kept_10 ?_
  exact s_iret hx hb hr hlk dX0_kept_11 (rfl)
