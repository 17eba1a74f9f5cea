set_option maxRecDepth 100000 in
set_option maxHeartbeats 4000000 in
theorem c_J9_floorDiv_7cf53 (l : Launch) (x : Int32) : Met l yJ9_floorDiv_7cf53 wsJ9_floorDiv_7cf53 ({ frames := 0, cells := 0, slots := 0, locals := 0 } : Room) (va_Pc ([.int x, .int 2] : List Value) (fun _ => True)) (vp_Si (fun rr => rr = fd2 x)) 0 0 (fun _ => False) := by
  refine s_headF (cc := cJ9_floorDiv_7cf53) (maxL := 3) (ret := (some .int)) (by decide +kernel) rfl (Nat.le_of_ble_eq_true rfl) ?_
  intro p e s m below meth c hx hb hr hlk hml hown hnm hts hB0 ls hl
  have hown : s.vm.findClass RJ9 = some m.cls := hown
  have hl : lv_has ls 3 [(0, .int x), (1, .int 2)] := hl
  refine lv_iload_n hx hb dJ9_floorDiv_7cf53_0 rfl (lv_at hl 0 rfl) ?_
  refine lv_iload_n hx hb dJ9_floorDiv_7cf53_1 rfl (lv_at hl 1 rfl) ?_
  refine lv_idiv hx hb dJ9_floorDiv_7cf53_2 (by decide +kernel) ?_
  refine lv_istore_n (lv' := [(2, .int (x / 2)), (0, .int x), (1, .int 2)]) hx hb dJ9_floorDiv_7cf53_3 rfl hl (by decide) rfl (fun ls hl => ?_)
  refine lv_iload_n hx hb dJ9_floorDiv_7cf53_4 rfl (lv_at hl 1 rfl) ?_
  refine lv_iload_n hx hb dJ9_floorDiv_7cf53_5 rfl (lv_at hl 2 rfl) ?_
  refine lv_ixor hx hb dJ9_floorDiv_7cf53_6 ?_
  refine lv_if_ge (tgt := 21) hx hb dJ9_floorDiv_7cf53_7 (by decide) (fun c7 => ?_) (fun c7 => ?_)
  ·
    refine lv_iload_n hx hb dJ9_floorDiv_7cf53_21 rfl (lv_at hl 0 rfl) ?_
    exact s_iret hx hb hr hlk dJ9_floorDiv_7cf53_22 (fd2_a c7)
  ·
    refine lv_iload_n hx hb dJ9_floorDiv_7cf53_10 rfl (lv_at hl 0 rfl) ?_
    refine lv_iload_n hx hb dJ9_floorDiv_7cf53_11 rfl (lv_at hl 2 rfl) ?_
    refine lv_imul hx hb dJ9_floorDiv_7cf53_12 ?_
    refine lv_iload_n hx hb dJ9_floorDiv_7cf53_13 rfl (lv_at hl 1 rfl) ?_
    refine lv_icmp_eq (tgt := 21) hx hb dJ9_floorDiv_7cf53_14 (by decide) (fun c14 => ?_) (fun c14 => ?_)
    ·
      refine lv_iload_n hx hb dJ9_floorDiv_7cf53_21 rfl (lv_at hl 0 rfl) ?_
      exact s_iret hx hb hr hlk dJ9_floorDiv_7cf53_22 (fd2_b c7 c14)
    ·
      refine lv_iload_n hx hb dJ9_floorDiv_7cf53_17 rfl (lv_at hl 0 rfl) ?_
      refine lv_iconst (v := 1) hx hb dJ9_floorDiv_7cf53_18 (by decide +kernel) ?_
      refine lv_isub hx hb dJ9_floorDiv_7cf53_19 ?_
      exact s_iret hx hb hr hlk dJ9_floorDiv_7cf53_20 (fd2_c c7 c14)
set_option maxRecDepth 100000 in
set_option maxHeartbeats 4000000 in
theorem c_J9_floorDiv_f86c9 (l : Launch) (x : Int64) : Met l yJ9_floorDiv_f86c9 wsJ9_floorDiv_f86c9 ({ frames := 0, cells := 0, slots := 0, locals := 0 } : Room) (va_Pc ([.long x, .long 6000] : List Value) (fun _ => True)) (vp_Sl (fun rr => rr = fd6 x)) 0 0 (fun _ => False) := by
  refine s_headF (cc := cJ9_floorDiv_f86c9) (maxL := 6) (ret := (some .long)) (by decide +kernel) rfl (Nat.le_of_ble_eq_true rfl) ?_
  intro p e s m below meth c hx hb hr hlk hml hown hnm hts hB0 ls hl
  have hown : s.vm.findClass RJ9 = some m.cls := hown
  have hl : lv_has ls 6 [(0, .long x), (2, .long 6000)] := hl
  refine lv_lload_n hx hb dJ9_floorDiv_f86c9_0 rfl (lv_at hl 0 rfl) ?_
  refine lv_lload_n hx hb dJ9_floorDiv_f86c9_1 rfl (lv_at hl 1 rfl) ?_
  refine lv_ldiv hx hb dJ9_floorDiv_f86c9_2 (by decide +kernel) ?_
  refine lv_lstore (lv' := [(4, .long (x / 6000)), (0, .long x), (2, .long 6000)]) hx hb dJ9_floorDiv_f86c9_3 hl (by decide) rfl (fun ls hl => ?_)
  refine lv_lload_n hx hb dJ9_floorDiv_f86c9_5 rfl (lv_at hl 1 rfl) ?_
  refine lv_lload_n hx hb dJ9_floorDiv_f86c9_6 rfl (lv_at hl 2 rfl) ?_
  refine lv_lxor hx hb dJ9_floorDiv_f86c9_7 ?_
  refine lv_lconst (v := 0) hx hb dJ9_floorDiv_f86c9_8 (by decide +kernel) ?_
  refine W.lcmp hx hb dJ9_floorDiv_f86c9_9 ?_
  refine lv_if_ge (tgt := 27) hx hb dJ9_floorDiv_f86c9_10 (by decide) (fun c10 => ?_) (fun c10 => ?_)
  ·
    replace c10 := cmp_ge.mp c10
    refine lv_lload hx hb dJ9_floorDiv_f86c9_27 (lv_at hl 0 rfl) ?_
    exact s_lret hx hb hr hlk dJ9_floorDiv_f86c9_29 (fd6_a c10)
  ·
    replace c10 := mt cmp_ge.mpr c10
    refine lv_lload hx hb dJ9_floorDiv_f86c9_13 (lv_at hl 0 rfl) ?_
    refine lv_lload_n hx hb dJ9_floorDiv_f86c9_15 rfl (lv_at hl 2 rfl) ?_
    refine lv_lmul hx hb dJ9_floorDiv_f86c9_16 ?_
    refine lv_lload_n hx hb dJ9_floorDiv_f86c9_17 rfl (lv_at hl 1 rfl) ?_
    refine W.lcmp hx hb dJ9_floorDiv_f86c9_18 ?_
    refine lv_if_eq (tgt := 27) hx hb dJ9_floorDiv_f86c9_19 (by decide) (fun c19 => ?_) (fun c19 => ?_)
    ·
      replace c19 := cmp_eq.mp c19
      refine lv_lload hx hb dJ9_floorDiv_f86c9_27 (lv_at hl 0 rfl) ?_
      exact s_lret hx hb hr hlk dJ9_floorDiv_f86c9_29 (fd6_b c10 c19)
    ·
      replace c19 := mt cmp_eq.mpr c19
      refine lv_lload hx hb dJ9_floorDiv_f86c9_22 (lv_at hl 0 rfl) ?_
      refine lv_lconst (v := 1) hx hb dJ9_floorDiv_f86c9_24 (by decide +kernel) ?_
      refine lv_lsub hx hb dJ9_floorDiv_f86c9_25 ?_
      exact s_lret hx hb hr hlk dJ9_floorDiv_f86c9_26 (fd6_c c10 c19)
set_option maxRecDepth 100000 in
set_option maxHeartbeats 4000000 in
theorem c_X3_entries (l : Launch) (D : sD) (B : Nat) (ad : Nat → Nat) (κ : sQ) : Met l yX3_entries wsX3_entries ({ frames := 0, cells := 0, slots := 0, locals := 0 } : Room) (sP D B (CW D ad κ) ([.ref (ad 0)] : List Value)) (vp_Si (fun rr => rr = κ 0 0)) 0 0 (fun _ => False) := by
  refine s_head (cc := cX3_entries) (maxL := 1) (ret := (some .int)) (by decide +kernel) rfl (Nat.le_of_ble_eq_true rfl) ?_
  intro p e s m below meth c hx hb hr hlk hml hown hnm hts hB0 ls hl
  have hJ := hB0
  have hown : s.vm.findClass RX3 = some m.cls := hown
  have hl : lv_has ls 1 [(0, .ref (ad 0))] := hl
  have k53 : (Cond.fieldLink RX3 53 "SailLog" "count" "I").before ([.ref (ad 0)] : List Value).toArray s = true := hts _ (by decide +kernel)
  have i3 : ∀ w ∈ wsX30, w ∈ wsX3_entries := by decide +kernel
  refine lv_aload_n hx hb dX3_entries_0 rfl (lv_at hl 0 rfl) ?_
  refine g3_5 hx hb hts i3 hown hJ k53 dX3_entries_1 ?_
  exact s_iret hx hb hr hlk dX3_entries_4 (rfl)
set_option maxRecDepth 100000 in
set_option maxHeartbeats 4000000 in
theorem c_X3_sine (l : Launch) (D : sD) (B : Nat) (ad : Nat → Nat) (κ : sQ) (x : Int32) : Met l yX3_sine wsX3_sine ({ frames := 2, cells := 0, slots := 0, locals := 43 } : Room) (sP D B (CW D ad κ) ([.ref (ad 0), .int x] : List Value)) (vp_Si (fun rr => rr = sn x)) 0 0 (fun _ => False) := by
  refine s_head (cc := cX3_sine) (maxL := 2) (ret := (some .int)) (by decide +kernel) rfl (Nat.le_of_ble_eq_true rfl) ?_
  intro p e s m below meth c hx hb hr hlk hml hown hnm hts hB0 ls hl
  have hJ := hB0
  have hown : s.vm.findClass RX3 = some m.cls := hown
  have hl : lv_has ls 2 [(0, .ref (ad 0)), (1, .int x)] := hl
  have k12 : (Cond.fieldLink RX3 12 "SailLog" "circle" "LSailLog$Circle;").before ([.ref (ad 0), .int x] : List Value).toArray s = true := hts _ (by decide +kernel)
  have i3 : ∀ w ∈ wsX30, w ∈ wsX3_sine := by decide +kernel
  refine lv_aload_n hx hb dX3_sine_0 rfl (lv_at hl 0 rfl) ?_
  refine g3_0 hx hb hts i3 hown hJ k12 dX3_sine_1 ?_
  refine lv_iload_n hx hb dX3_sine_4 rfl (lv_at hl 1 rfl) ?_
  refine s_ciV (As := [.int x]) (rest := []) ⟨hx, hb, hml, hown, hts⟩ (c_X1_sineOf l D B ad κ x ) (cwV 1 hts gX3_sine_X1_sineOf rfl rfl rfl hdV_X1_sineOf ⟨Nat.le_of_ble_eq_true rfl, Nat.le_of_ble_eq_true rfl⟩) (sPV hJ (ci := 1) (q0 := 1) rfl rfl) rfl hl.1 rfl (Nat.le_of_ble_eq_true rfl) dX3_sine_5 ⟨Nat.le_of_ble_eq_true rfl, Nat.le_of_ble_eq_true rfl⟩ ?_
  exact s_iret hx hb hr hlk dX3_sine_8 (rfl)
set_option maxRecDepth 100000 in
set_option maxHeartbeats 4000000 in
theorem c_X3_speed (l : Launch) (hfl : l.flags = flags0) (D : sD) (B : Nat) (ad : Nat → Nat) (κ : sQ) (x : Int32) (n : Nat) (hn9 : κ 0 0 = nI n) (hn60 : n ≤ 60) : vx_Met l yX3_speed wsX3_speed ({ frames := 7, cells := 1, slots := 6, locals := 103 } : Room) (sP D B (CW D ad κ) ([.ref (ad 0), .int x] : List Value)) (vp_Si (fun rr => (0 ≤ x ∧ x ≤ (κ 0 0 - 1)) ∧ rr = κ 9 (iN x))) (sX (fun E => E = E_I ∧ ¬ (0 ≤ x ∧ x ≤ (κ 0 0 - 1)))) 1 6 (fun _ => False) := by
  refine s_headX (cc := cX3_speed) (maxL := 2) (ret := (some .int)) (by decide +kernel) rfl (Nat.le_of_ble_eq_true rfl) ?_
  intro p e s m below meth c hx hb hr hlk hml hown hno hts hB0 ls hl
  have hJ := hB0
  have hown : s.vm.findClass RX3 = some m.cls := hown
  have hl : lv_has ls 2 [(0, .ref (ad 0)), (1, .int x)] := hl
  have k18 : (Cond.fieldLink RX3 18 "SailLog" "logged" "[LSailLog$Entry;").before ([.ref (ad 0), .int x] : List Value).toArray s = true := hts _ (by decide +kernel)
  have i3 : ∀ w ∈ wsX30, w ∈ wsX3_speed := by decide +kernel
  have k109 : (Cond.fieldLink RX3 109 "SailLog$Entry" "trueSpeed" "I").before ([.ref (ad 0), .int x] : List Value).toArray s = true := hts _ (by decide +kernel)
  have i2 : ∀ w ∈ wsX20, w ∈ wsX3_speed := by decide +kernel
  refine lv_aload_n hx hb dX3_speed_0 rfl (lv_at hl 0 rfl) ?_
  refine lv_iload_n hx hb dX3_speed_1 rfl (lv_at hl 1 rfl) ?_
  refine s_xvV (As := [.int x]) (rest := []) ⟨hx, hb, hml, hown, hts⟩ (c_X3_checkEntry l hfl D B ad κ x ) (cwV 1 hts gX3_speed_X3_checkEntry rfl rfl rfl hdV_X3_checkEntry ⟨Nat.le_of_ble_eq_true rfl, Nat.le_of_ble_eq_true rfl⟩) (sPV hJ (ci := 3) (q0 := 0) rfl rfl) rfl hl.1 rfl (Nat.le_of_ble_eq_true rfl) dX3_speed_2 ⟨Nat.le_of_ble_eq_true rfl, Nat.le_of_ble_eq_true rfl⟩ hno hlk (fun E h => h) (Nat.le_of_ble_eq_true rfl) (Nat.le_of_ble_eq_true rfl) (fun c2 => ?_)
  obtain ⟨ex, hxn⟩ := ent_ok c2 hn9 hn60
  have hx60 : iN x < 60 := by omega
  refine lv_aload_n hx hb dX3_speed_5 rfl (lv_at hl 0 rfl) ?_
  refine g3_1 hx hb hts i3 hown hJ k18 dX3_speed_6 ?_
  refine lv_iload_n hx hb dX3_speed_9 rfl (lv_at hl 1 rfl) ?_
  refine a_log (k := iN x) hx hb hJ (ex) (by omega) dX3_speed_10 ?_
  refine g2_5 (by omega) hx hb hts i2 hown hJ k109 dX3_speed_11 ?_
  exact s_xiret hx hb hr hlk dX3_speed_14 (c2) (rfl) (Nat.le_of_ble_eq_true rfl) (Nat.le_of_ble_eq_true rfl)
set_option maxRecDepth 100000 in
set_option maxHeartbeats 4000000 in
theorem c_X3_strength (l : Launch) (hfl : l.flags = flags0) (D : sD) (B : Nat) (ad : Nat → Nat) (κ : sQ) (x : Int32) (n : Nat) (hn9 : κ 0 0 = nI n) (hn60 : n ≤ 60) : vx_Met l yX3_strength wsX3_strength ({ frames := 7, cells := 1, slots := 6, locals := 103 } : Room) (sP D B (CW D ad κ) ([.ref (ad 0), .int x] : List Value)) (vp_Si (fun rr => (0 ≤ x ∧ x ≤ (κ 0 0 - 1)) ∧ rr = κ 11 (iN x))) (sX (fun E => E = E_I ∧ ¬ (0 ≤ x ∧ x ≤ (κ 0 0 - 1)))) 1 6 (fun _ => False) := by
  refine s_headX (cc := cX3_strength) (maxL := 2) (ret := (some .int)) (by decide +kernel) rfl (Nat.le_of_ble_eq_true rfl) ?_
  intro p e s m below meth c hx hb hr hlk hml hown hno hts hB0 ls hl
  have hJ := hB0
  have hown : s.vm.findClass RX3 = some m.cls := hown
  have hl : lv_has ls 2 [(0, .ref (ad 0)), (1, .int x)] := hl
  have k18 : (Cond.fieldLink RX3 18 "SailLog" "logged" "[LSailLog$Entry;").before ([.ref (ad 0), .int x] : List Value).toArray s = true := hts _ (by decide +kernel)
  have i3 : ∀ w ∈ wsX30, w ∈ wsX3_strength := by decide +kernel
  have k112 : (Cond.fieldLink RX3 112 "SailLog$Entry" "windStrength" "I").before ([.ref (ad 0), .int x] : List Value).toArray s = true := hts _ (by decide +kernel)
  have i2 : ∀ w ∈ wsX20, w ∈ wsX3_strength := by decide +kernel
  refine lv_aload_n hx hb dX3_strength_0 rfl (lv_at hl 0 rfl) ?_
  refine lv_iload_n hx hb dX3_strength_1 rfl (lv_at hl 1 rfl) ?_
  refine s_xvV (As := [.int x]) (rest := []) ⟨hx, hb, hml, hown, hts⟩ (c_X3_checkEntry l hfl D B ad κ x ) (cwV 1 hts gX3_strength_X3_checkEntry rfl rfl rfl hdV_X3_checkEntry ⟨Nat.le_of_ble_eq_true rfl, Nat.le_of_ble_eq_true rfl⟩) (sPV hJ (ci := 3) (q0 := 0) rfl rfl) rfl hl.1 rfl (Nat.le_of_ble_eq_true rfl) dX3_strength_2 ⟨Nat.le_of_ble_eq_true rfl, Nat.le_of_ble_eq_true rfl⟩ hno hlk (fun E h => h) (Nat.le_of_ble_eq_true rfl) (Nat.le_of_ble_eq_true rfl) (fun c2 => ?_)
  obtain ⟨ex, hxn⟩ := ent_ok c2 hn9 hn60
  have hx60 : iN x < 60 := by omega
  refine lv_aload_n hx hb dX3_strength_5 rfl (lv_at hl 0 rfl) ?_
  refine g3_1 hx hb hts i3 hown hJ k18 dX3_strength_6 ?_
  refine lv_iload_n hx hb dX3_strength_9 rfl (lv_at hl 1 rfl) ?_
  refine a_log (k := iN x) hx hb hJ (ex) (by omega) dX3_strength_10 ?_
  refine g2_7 (by omega) hx hb hts i2 hown hJ k112 dX3_strength_11 ?_
  exact s_xiret hx hb hr hlk dX3_strength_14 (c2) (rfl) (Nat.le_of_ble_eq_true rfl) (Nat.le_of_ble_eq_true rfl)
set_option maxRecDepth 100000 in
set_option maxHeartbeats 4000000 in
theorem c_X3_angle (l : Launch) (hfl : l.flags = flags0) (D : sD) (B : Nat) (ad : Nat → Nat) (κ : sQ) (x : Int32) (n : Nat) (hn9 : κ 0 0 = nI n) (hn60 : n ≤ 60) : vx_Met l yX3_angle wsX3_angle ({ frames := 7, cells := 1, slots := 6, locals := 103 } : Room) (sP D B (CW D ad κ) ([.ref (ad 0), .int x] : List Value)) (vp_Si (fun rr => (0 ≤ x ∧ x ≤ (κ 0 0 - 1)) ∧ rr = κ 12 (iN x))) (sX (fun E => E = E_I ∧ ¬ (0 ≤ x ∧ x ≤ (κ 0 0 - 1)))) 1 6 (fun _ => False) := by
  refine s_headX (cc := cX3_angle) (maxL := 2) (ret := (some .int)) (by decide +kernel) rfl (Nat.le_of_ble_eq_true rfl) ?_
  intro p e s m below meth c hx hb hr hlk hml hown hno hts hB0 ls hl
  have hJ := hB0
  have hown : s.vm.findClass RX3 = some m.cls := hown
  have hl : lv_has ls 2 [(0, .ref (ad 0)), (1, .int x)] := hl
  have k18 : (Cond.fieldLink RX3 18 "SailLog" "logged" "[LSailLog$Entry;").before ([.ref (ad 0), .int x] : List Value).toArray s = true := hts _ (by decide +kernel)
  have i3 : ∀ w ∈ wsX30, w ∈ wsX3_angle := by decide +kernel
  have k115 : (Cond.fieldLink RX3 115 "SailLog$Entry" "windAngle" "I").before ([.ref (ad 0), .int x] : List Value).toArray s = true := hts _ (by decide +kernel)
  have i2 : ∀ w ∈ wsX20, w ∈ wsX3_angle := by decide +kernel
  refine lv_aload_n hx hb dX3_angle_0 rfl (lv_at hl 0 rfl) ?_
  refine lv_iload_n hx hb dX3_angle_1 rfl (lv_at hl 1 rfl) ?_
  refine s_xvV (As := [.int x]) (rest := []) ⟨hx, hb, hml, hown, hts⟩ (c_X3_checkEntry l hfl D B ad κ x ) (cwV 1 hts gX3_angle_X3_checkEntry rfl rfl rfl hdV_X3_checkEntry ⟨Nat.le_of_ble_eq_true rfl, Nat.le_of_ble_eq_true rfl⟩) (sPV hJ (ci := 3) (q0 := 0) rfl rfl) rfl hl.1 rfl (Nat.le_of_ble_eq_true rfl) dX3_angle_2 ⟨Nat.le_of_ble_eq_true rfl, Nat.le_of_ble_eq_true rfl⟩ hno hlk (fun E h => h) (Nat.le_of_ble_eq_true rfl) (Nat.le_of_ble_eq_true rfl) (fun c2 => ?_)
  obtain ⟨ex, hxn⟩ := ent_ok c2 hn9 hn60
  have hx60 : iN x < 60 := by omega
  refine lv_aload_n hx hb dX3_angle_5 rfl (lv_at hl 0 rfl) ?_
  refine g3_1 hx hb hts i3 hown hJ k18 dX3_angle_6 ?_
  refine lv_iload_n hx hb dX3_angle_9 rfl (lv_at hl 1 rfl) ?_
  refine a_log (k := iN x) hx hb hJ (ex) (by omega) dX3_angle_10 ?_
  refine g2_8 (by omega) hx hb hts i2 hown hJ k115 dX3_angle_11 ?_
  exact s_xiret hx hb hr hlk dX3_angle_14 (c2) (rfl) (Nat.le_of_ble_eq_true rfl) (Nat.le_of_ble_eq_true rfl)
set_option maxRecDepth 100000 in
set_option maxHeartbeats 4000000 in
theorem c_X3_from (l : Launch) (hfl : l.flags = flags0) (D : sD) (B : Nat) (ad : Nat → Nat) (κ : sQ) (x : Int32) (n : Nat) (hn9 : κ 0 0 = nI n) (hn60 : n ≤ 60) : vx_Met l yX3_from wsX3_from ({ frames := 7, cells := 1, slots := 6, locals := 103 } : Room) (sP D B (CW D ad κ) ([.ref (ad 0), .int x] : List Value)) (vp_Si (fun rr => (0 ≤ x ∧ x ≤ (κ 0 0 - 1)) ∧ rr = t360 ((κ 10 (iN x)) + (κ 12 (iN x))))) (sX (fun E => E = E_I ∧ ¬ (0 ≤ x ∧ x ≤ (κ 0 0 - 1)))) 1 6 (fun _ => False) := by
  refine s_headX (cc := cX3_from) (maxL := 2) (ret := (some .int)) (by decide +kernel) rfl (Nat.le_of_ble_eq_true rfl) ?_
  intro p e s m below meth c hx hb hr hlk hml hown hno hts hB0 ls hl
  have hJ := hB0
  have hown : s.vm.findClass RX3 = some m.cls := hown
  have hl : lv_has ls 2 [(0, .ref (ad 0)), (1, .int x)] := hl
  have k18 : (Cond.fieldLink RX3 18 "SailLog" "logged" "[LSailLog$Entry;").before ([.ref (ad 0), .int x] : List Value).toArray s = true := hts _ (by decide +kernel)
  have i3 : ∀ w ∈ wsX30, w ∈ wsX3_from := by decide +kernel
  have k118 : (Cond.fieldLink RX3 118 "SailLog$Entry" "trueHeading" "I").before ([.ref (ad 0), .int x] : List Value).toArray s = true := hts _ (by decide +kernel)
  have i2 : ∀ w ∈ wsX20, w ∈ wsX3_from := by decide +kernel
  have k115 : (Cond.fieldLink RX3 115 "SailLog$Entry" "windAngle" "I").before ([.ref (ad 0), .int x] : List Value).toArray s = true := hts _ (by decide +kernel)
  refine lv_aload_n hx hb dX3_from_0 rfl (lv_at hl 0 rfl) ?_
  refine lv_iload_n hx hb dX3_from_1 rfl (lv_at hl 1 rfl) ?_
  refine s_xvV (As := [.int x]) (rest := []) ⟨hx, hb, hml, hown, hts⟩ (c_X3_checkEntry l hfl D B ad κ x ) (cwV 1 hts gX3_from_X3_checkEntry rfl rfl rfl hdV_X3_checkEntry ⟨Nat.le_of_ble_eq_true rfl, Nat.le_of_ble_eq_true rfl⟩) (sPV hJ (ci := 3) (q0 := 0) rfl rfl) rfl hl.1 rfl (Nat.le_of_ble_eq_true rfl) dX3_from_2 ⟨Nat.le_of_ble_eq_true rfl, Nat.le_of_ble_eq_true rfl⟩ hno hlk (fun E h => h) (Nat.le_of_ble_eq_true rfl) (Nat.le_of_ble_eq_true rfl) (fun c2 => ?_)
  obtain ⟨ex, hxn⟩ := ent_ok c2 hn9 hn60
  have hx60 : iN x < 60 := by omega
  refine lv_aload_n hx hb dX3_from_5 rfl (lv_at hl 0 rfl) ?_
  refine g3_1 hx hb hts i3 hown hJ k18 dX3_from_6 ?_
  refine lv_iload_n hx hb dX3_from_9 rfl (lv_at hl 1 rfl) ?_
  refine a_log (k := iN x) hx hb hJ (ex) (by omega) dX3_from_10 ?_
  refine g2_6 (by omega) hx hb hts i2 hown hJ k118 dX3_from_11 ?_
  refine lv_aload_n hx hb dX3_from_14 rfl (lv_at hl 0 rfl) ?_
  refine g3_1 hx hb hts i3 hown hJ k18 dX3_from_15 ?_
  refine lv_iload_n hx hb dX3_from_18 rfl (lv_at hl 1 rfl) ?_
  refine a_log (k := iN x) hx hb hJ (ex) (by omega) dX3_from_19 ?_
  refine g2_8 (by omega) hx hb hts i2 hown hJ k115 dX3_from_20 ?_
  refine s_ciS (As := [.int (κ 10 (iN x)), .int (κ 12 (iN x))]) (rest := []) ⟨hx, hb, hml, hown, hts⟩ (c_X3_turned l (κ 10 (iN x)) (κ 12 (iN x)) ) (va_cwS 2 hts gX3_from_X3_turned rfl rfl rfl hdS_X3_turned ⟨Nat.le_of_ble_eq_true rfl, Nat.le_of_ble_eq_true rfl⟩) sPS0 rfl hl.1 rfl (Nat.le_of_ble_eq_true rfl) dX3_from_23 ⟨Nat.le_of_ble_eq_true rfl, Nat.le_of_ble_eq_true rfl⟩ ?_
  exact s_xiret hx hb hr hlk dX3_from_26 (c2) (rfl) (Nat.le_of_ble_eq_true rfl) (Nat.le_of_ble_eq_true rfl)
set_option maxRecDepth 100000 in
set_option maxHeartbeats 4000000 in
theorem c_X3_side (l : Launch) (hfl : l.flags = flags0) (D : sD) (B : Nat) (ad : Nat → Nat) (κ : sQ) (x : Int32) (n : Nat) (hn9 : κ 0 0 = nI n) (hn60 : n ≤ 60) : vx_Met l yX3_side wsX3_side ({ frames := 7, cells := 1, slots := 6, locals := 103 } : Room) (sP D B (CW D ad κ) ([.ref (ad 0), .int x] : List Value)) (vp_Si (fun rr => (0 ≤ x ∧ x ≤ (κ 0 0 - 1)) ∧ rr = sdI (κ 12 (iN x)))) (sX (fun E => E = E_I ∧ ¬ (0 ≤ x ∧ x ≤ (κ 0 0 - 1)))) 1 6 (fun _ => False) := by
  refine s_headX (cc := cX3_side) (maxL := 2) (ret := (some .int)) (by decide +kernel) rfl (Nat.le_of_ble_eq_true rfl) ?_
  intro p e s m below meth c hx hb hr hlk hml hown hno hts hB0 ls hl
  have hJ := hB0
  have hown : s.vm.findClass RX3 = some m.cls := hown
  have hl : lv_has ls 2 [(0, .ref (ad 0)), (1, .int x)] := hl
  have k18 : (Cond.fieldLink RX3 18 "SailLog" "logged" "[LSailLog$Entry;").before ([.ref (ad 0), .int x] : List Value).toArray s = true := hts _ (by decide +kernel)
  have i3 : ∀ w ∈ wsX30, w ∈ wsX3_side := by decide +kernel
  refine lv_aload_n hx hb dX3_side_0 rfl (lv_at hl 0 rfl) ?_
  refine lv_iload_n hx hb dX3_side_1 rfl (lv_at hl 1 rfl) ?_
  refine s_xvV (As := [.int x]) (rest := []) ⟨hx, hb, hml, hown, hts⟩ (c_X3_checkEntry l hfl D B ad κ x ) (cwV 1 hts gX3_side_X3_checkEntry rfl rfl rfl hdV_X3_checkEntry ⟨Nat.le_of_ble_eq_true rfl, Nat.le_of_ble_eq_true rfl⟩) (sPV hJ (ci := 3) (q0 := 0) rfl rfl) rfl hl.1 rfl (Nat.le_of_ble_eq_true rfl) dX3_side_2 ⟨Nat.le_of_ble_eq_true rfl, Nat.le_of_ble_eq_true rfl⟩ hno hlk (fun E h => h) (Nat.le_of_ble_eq_true rfl) (Nat.le_of_ble_eq_true rfl) (fun c2 => ?_)
  obtain ⟨ex, hxn⟩ := ent_ok c2 hn9 hn60
  have hx60 : iN x < 60 := by omega
  refine lv_aload_n hx hb dX3_side_5 rfl (lv_at hl 0 rfl) ?_
  refine g3_1 hx hb hts i3 hown hJ k18 dX3_side_6 ?_
  refine lv_iload_n hx hb dX3_side_9 rfl (lv_at hl 1 rfl) ?_
  refine a_log (k := iN x) hx hb hJ (ex) (by omega) dX3_side_10 ?_
  refine s_ciV (As := []) (rest := []) ⟨hx, hb, hml, hown, hts⟩ (c_X2_windSide l D B ad κ (iN x) (by assumption)) (cwV 0 hts gX3_side_X2_windSide rfl rfl rfl hdV_X2_windSide ⟨Nat.le_of_ble_eq_true rfl, Nat.le_of_ble_eq_true rfl⟩) (sPV hJ (ci := 2) rfl (CW_e D ad κ (by omega))) rfl hl.1 rfl (Nat.le_of_ble_eq_true rfl) dX3_side_11 ⟨Nat.le_of_ble_eq_true rfl, Nat.le_of_ble_eq_true rfl⟩ ?_
  exact s_xiret hx hb hr hlk dX3_side_14 (c2) (rfl) (Nat.le_of_ble_eq_true rfl) (Nat.le_of_ble_eq_true rfl)
set_option maxRecDepth 100000 in
set_option maxHeartbeats 4000000 in
theorem c_X3_best (l : Launch) (hfl : l.flags = flags0) (D : sD) (B : Nat) (ad : Nat → Nat) (κ : sQ) (x : Int32) (y : Int32) : vx_Met l yX3_best wsX3_best ({ frames := 8, cells := 1, slots := 6, locals := 123 } : Room) (sP D B (CW D ad κ) ([.ref (ad 0), .int x, .int y] : List Value)) (vp_Si (fun rr => ((0 ≤ x ∧ x ≤ 18) ∧ (0 ≤ y ∧ y ≤ 9)) ∧ rr = κ 1 (iN x * 10 + iN y))) (sX (fun E => E = E_I ∧ ¬ ((0 ≤ x ∧ x ≤ 18) ∧ (0 ≤ y ∧ y ≤ 9)))) 1 6 (fun _ => False) := by
  refine s_headX (cc := cX3_best) (maxL := 3) (ret := (some .int)) (by decide +kernel) rfl (Nat.le_of_ble_eq_true rfl) ?_
  intro p e s m below meth c hx hb hr hlk hml hown hno hts hB0 ls hl
  have hJ := hB0
  have hown : s.vm.findClass RX3 = some m.cls := hown
  have hl : lv_has ls 3 [(0, .ref (ad 0)), (1, .int x), (2, .int y)] := hl
  have k26 : (Cond.fieldLink RX3 26 "SailLog" "bestSpeeds" "LSailLog$BestSpeeds;").before ([.ref (ad 0), .int x, .int y] : List Value).toArray s = true := hts _ (by decide +kernel)
  have i3 : ∀ w ∈ wsX30, w ∈ wsX3_best := by decide +kernel
  refine lv_iload_n hx hb dX3_best_0 rfl (lv_at hl 1 rfl) ?_
  refine lv_iload_n hx hb dX3_best_1 rfl (lv_at hl 2 rfl) ?_
  refine s_xvS (As := [.int x, .int y]) (rest := []) ⟨hx, hb, hml, hown, hts⟩ (c_X3_checkField l hfl D B ad κ x y ) (va_cwS 2 hts gX3_best_X3_checkField rfl rfl rfl hdS_X3_checkField ⟨Nat.le_of_ble_eq_true rfl, Nat.le_of_ble_eq_true rfl⟩) (sPS hJ) rfl hl.1 rfl (Nat.le_of_ble_eq_true rfl) dX3_best_2 ⟨Nat.le_of_ble_eq_true rfl, Nat.le_of_ble_eq_true rfl⟩ hno hlk (fun E h => h) (Nat.le_of_ble_eq_true rfl) (Nat.le_of_ble_eq_true rfl) (fun c2 => ?_)
  obtain ⟨ex, hxn⟩ := rng_ok 18 (by decide +kernel) (by omega) c2.1
  obtain ⟨ey, hyn⟩ := rng_ok 9 (by decide +kernel) (by omega) c2.2
  refine lv_aload_n hx hb dX3_best_5 rfl (lv_at hl 0 rfl) ?_
  refine g3_2 hx hb hts i3 hown hJ k26 dX3_best_6 ?_
  refine lv_iload_n hx hb dX3_best_9 rfl (lv_at hl 1 rfl) ?_
  refine lv_iload_n hx hb dX3_best_10 rfl (lv_at hl 2 rfl) ?_
  refine s_ciV (As := [.int x, .int y]) (rest := []) ⟨hx, hb, hml, hown, hts⟩ (c_X0_kept l D B ad κ x y (iN x) (iN y) (ex) (ey) (by omega) (by omega)) (cwV 2 hts gX3_best_X0_kept rfl rfl rfl hdV_X0_kept ⟨Nat.le_of_ble_eq_true rfl, Nat.le_of_ble_eq_true rfl⟩) (sPV hJ (ci := 0) (q0 := 4) rfl rfl) rfl hl.1 rfl (Nat.le_of_ble_eq_true rfl) dX3_best_11 ⟨Nat.le_of_ble_eq_true rfl, Nat.le_of_ble_eq_true rfl⟩ ?_
  exact s_xiret hx hb hr hlk dX3_best_14 (c2) (rfl) (Nat.le_of_ble_eq_true rfl) (Nat.le_of_ble_eq_true rfl)
set_option maxRecDepth 100000 in
set_option maxHeartbeats 4000000 in
theorem c_X3_bestByLog (l : Launch) (hfl : l.flags = flags0) (D : sD) (B : Nat) (ad : Nat → Nat) (κ : sQ) (x : Int32) (y : Int32) (n : Nat) (hn9 : κ 0 0 = nI n) (hn60 : n ≤ 60) : vx_Met l yX3_bestByLog wsX3_bestByLog ({ frames := 8, cells := 1, slots := 6, locals := 123 } : Room) (sP D B (CW D ad κ) ([.ref (ad 0), .int x, .int y] : List Value)) (vp_Si (fun rr => ((0 ≤ x ∧ x ≤ 18) ∧ (0 ≤ y ∧ y ≤ 9)) ∧ rr = fmx (κ 9) (κ 11) (κ 12) x y n)) (sX (fun E => E = E_I ∧ ¬ ((0 ≤ x ∧ x ≤ 18) ∧ (0 ≤ y ∧ y ≤ 9)))) 1 6 (fun _ => False) := by
  refine s_headX (cc := cX3_bestByLog) (maxL := 6) (ret := (some .int)) (by decide +kernel) rfl (Nat.le_of_ble_eq_true rfl) ?_
  intro p e s m below meth c hx hb hr hlk hml hown hno hts hB0 ls hl
  have hJ := hB0
  have hown : s.vm.findClass RX3 = some m.cls := hown
  have hl : lv_has ls 6 [(0, .ref (ad 0)), (1, .int x), (2, .int y)] := hl
  have k53 : (Cond.fieldLink RX3 53 "SailLog" "count" "I").before ([.ref (ad 0), .int x, .int y] : List Value).toArray s = true := hts _ (by decide +kernel)
  have i3 : ∀ w ∈ wsX30, w ∈ wsX3_bestByLog := by decide +kernel
  have k18 : (Cond.fieldLink RX3 18 "SailLog" "logged" "[LSailLog$Entry;").before ([.ref (ad 0), .int x, .int y] : List Value).toArray s = true := hts _ (by decide +kernel)
  have k109 : (Cond.fieldLink RX3 109 "SailLog$Entry" "trueSpeed" "I").before ([.ref (ad 0), .int x, .int y] : List Value).toArray s = true := hts _ (by decide +kernel)
  have i2 : ∀ w ∈ wsX20, w ∈ wsX3_bestByLog := by decide +kernel
  have mlmax142 : (Cond.methodLink RX3 142 Lib.Math.max.name).before ([.ref (ad 0), .int x, .int y] : List Value).toArray s = true := hts _ (by decide +kernel)
  have msmax0 : (Cond.static Lib.Math.max.name).before ([.ref (ad 0), .int x, .int y] : List Value).toArray s = true := hts _ (by decide +kernel)
  have mimax0 : (Cond.initialized "java/lang/Math").before ([.ref (ad 0), .int x, .int y] : List Value).toArray s = true := hts _ (by decide +kernel)
  have mcmax0 : (Cond.code Lib.Math.max.name Lib.Math.max.code 2 (some .int)).before ([.ref (ad 0), .int x, .int y] : List Value).toArray s = true := hts _ (by decide +kernel)
  refine lv_iload_n hx hb dX3_bestByLog_0 rfl (lv_at hl 1 rfl) ?_
  refine lv_iload_n hx hb dX3_bestByLog_1 rfl (lv_at hl 2 rfl) ?_
  refine s_xvS (As := [.int x, .int y]) (rest := []) ⟨hx, hb, hml, hown, hts⟩ (c_X3_checkField l hfl D B ad κ x y ) (va_cwS 2 hts gX3_bestByLog_X3_checkField rfl rfl rfl hdS_X3_checkField ⟨Nat.le_of_ble_eq_true rfl, Nat.le_of_ble_eq_true rfl⟩) (sPS hJ) rfl hl.1 rfl (Nat.le_of_ble_eq_true rfl) dX3_bestByLog_2 ⟨Nat.le_of_ble_eq_true rfl, Nat.le_of_ble_eq_true rfl⟩ hno hlk (fun E h => h) (Nat.le_of_ble_eq_true rfl) (Nat.le_of_ble_eq_true rfl) (fun c2 => ?_)
  refine lv_iconst (v := 0) hx hb dX3_bestByLog_5 (by decide +kernel) ?_
  refine lv_istore_n (lv' := [(3, .int 0), (0, .ref (ad 0)), (1, .int x), (2, .int y)]) hx hb dX3_bestByLog_6 rfl hl (by decide) rfl (fun ls hl => ?_)
  refine lv_iconst (v := 0) hx hb dX3_bestByLog_7 (by decide +kernel) ?_
  refine lv_istore (lv' := [(4, .int 0), (3, .int 0), (0, .ref (ad 0)), (1, .int x), (2, .int y)]) hx hb dX3_bestByLog_8 hl (by decide) rfl (fun ls hl => ?_)
  have loop10 : ∀ (fuel : Nat) (j : Nat) (g : Int32) (hj : j ≤ n) (hg : fmx (κ 9) (κ 11) (κ 12) x y j = g) (hfu : n + 1 ≤ j + fuel) (ls : Array Slot), lv_has ls 6 [(0, .ref (ad 0)), (1, .int x), (2, .int y), (3, .int g), (4, .int (nI j))] → W p l e ({ frames := 8, cells := 1, slots := 6, locals := 123 } : Room) s m ([.ref (ad 0), .int x, .int y] : List Value).toArray below meth c s.heap [] 1 6 (vx_MQ below (vp_Si (fun rr => ((0 ≤ x ∧ x ≤ 18) ∧ (0 ≤ y ∧ y ≤ 9)) ∧ rr = fmx (κ 9) (κ 11) (κ 12) x y n)) (sX (fun E => E = E_I ∧ ¬ ((0 ≤ x ∧ x ≤ 18) ∧ (0 ≤ y ∧ y ≤ 9)))) ([.ref (ad 0), .int x, .int y] : List Value).toArray s 1 6 (fun _ => False)) (F0 m 10 ls []) := by
    intro fuel
    induction fuel with
    | zero => intro j g hj hg hfu ls hl; exact absurd (hfu) (by omega)
    | succ fuel ih10 =>
      intro j g hj hg hfu ls hl
      refine lv_iload hx hb dX3_bestByLog_10 (lv_at hl 4 rfl) ?_
      refine lv_aload_n hx hb dX3_bestByLog_12 rfl (lv_at hl 0 rfl) ?_
      refine g3_5 hx hb hts i3 hown hJ k53 dX3_bestByLog_13 ?_
      refine lv_icmp_ge (tgt := 62) hx hb dX3_bestByLog_16 (by decide) (fun c16 => ?_) (fun c16 => ?_)
      ·
        refine lv_iload_n hx hb dX3_bestByLog_62 rfl (lv_at hl 3 rfl) ?_
        exact s_xiret hx hb hr hlk dX3_bestByLog_63 (c2) (by rw [hn9] at c16; rw [← hg, show j = n from by have := (nI_leI (a := n) (b := j) (by omega) (by omega)).mp c16; omega]) (Nat.le_of_ble_eq_true rfl) (Nat.le_of_ble_eq_true rfl)
      ·
        rw [hn9] at c16
        have hj2 : j < n := by have := mt (nI_leI (a := n) (b := j) (by omega) (by omega)).mpr c16; omega
        have hi60 : j < 60 := by omega
        refine lv_aload_n hx hb dX3_bestByLog_19 rfl (lv_at hl 0 rfl) ?_
        refine g3_1 hx hb hts i3 hown hJ k18 dX3_bestByLog_20 ?_
        refine lv_iload hx hb dX3_bestByLog_23 (lv_at hl 4 rfl) ?_
        refine a_log (k := j) hx hb hJ (rfl) (by omega) dX3_bestByLog_25 ?_
        refine lv_astore (lv' := [(5, .ref (ad (8 + j))), (0, .ref (ad 0)), (1, .int x), (2, .int y), (3, .int g), (4, .int (nI j))]) hx hb dX3_bestByLog_26 hl (by decide) rfl (fun ls hl => ?_)
        refine lv_aload hx hb dX3_bestByLog_28 (lv_at hl 0 rfl) ?_
        refine s_ciV (As := []) (rest := []) ⟨hx, hb, hml, hown, hts⟩ (c_X2_row l D B ad κ j (by assumption)) (cwV 0 hts gX3_bestByLog_X2_row rfl rfl rfl hdV_X2_row ⟨Nat.le_of_ble_eq_true rfl, Nat.le_of_ble_eq_true rfl⟩) (sPV hJ (ci := 2) rfl (CW_e D ad κ (by omega))) rfl hl.1 rfl (Nat.le_of_ble_eq_true rfl) dX3_bestByLog_30 ⟨Nat.le_of_ble_eq_true rfl, Nat.le_of_ble_eq_true rfl⟩ ?_
        refine lv_iload_n hx hb dX3_bestByLog_33 rfl (lv_at hl 2 rfl) ?_
        refine lv_icmp_ne (tgt := 56) hx hb dX3_bestByLog_34 (by decide) (fun c34 => ?_) (fun c34 => ?_)
        ·
          refine lv_iinc (v := nI (j + 1)) (lv' := [(4, .int (nI (j + 1))), (5, .ref (ad (8 + j))), (0, .ref (ad 0)), (1, .int x), (2, .int y), (3, .int g)]) hx hb dX3_bestByLog_56 hl (k := 5) rfl (nI_1 j) (by decide) rfl (fun ls hl => ?_)
          refine lv_goto (tgt := 10) hx hb dX3_bestByLog_59 (by decide) ?_
          exact ih10 (j + 1) g (by omega) (fmx_no hg (fun q => c34 q.1)) (by omega) _ (lv_sub hl [2, 3, 4, 5, 0] rfl)
        ·
          refine lv_aload hx hb dX3_bestByLog_37 (lv_at hl 0 rfl) ?_
          refine s_ciV (As := []) (rest := []) ⟨hx, hb, hml, hown, hts⟩ (c_X2_column l D B ad κ j (by assumption)) (cwV 0 hts gX3_bestByLog_X2_column rfl rfl rfl hdV_X2_column ⟨Nat.le_of_ble_eq_true rfl, Nat.le_of_ble_eq_true rfl⟩) (sPV hJ (ci := 2) rfl (CW_e D ad κ (by omega))) rfl hl.1 rfl (Nat.le_of_ble_eq_true rfl) dX3_bestByLog_39 ⟨Nat.le_of_ble_eq_true rfl, Nat.le_of_ble_eq_true rfl⟩ ?_
          refine lv_iload_n hx hb dX3_bestByLog_42 rfl (lv_at hl 3 rfl) ?_
          refine lv_icmp_ne (tgt := 56) hx hb dX3_bestByLog_43 (by decide) (fun c43 => ?_) (fun c43 => ?_)
          ·
            refine lv_iinc (v := nI (j + 1)) (lv' := [(4, .int (nI (j + 1))), (5, .ref (ad (8 + j))), (0, .ref (ad 0)), (1, .int x), (2, .int y), (3, .int g)]) hx hb dX3_bestByLog_56 hl (k := 5) rfl (nI_1 j) (by decide) rfl (fun ls hl => ?_)
            refine lv_goto (tgt := 10) hx hb dX3_bestByLog_59 (by decide) ?_
            exact ih10 (j + 1) g (by omega) (fmx_no hg (fun q => c43 q.2)) (by omega) _ (lv_sub hl [2, 3, 4, 5, 0] rfl)
          ·
            refine lv_iload_n hx hb dX3_bestByLog_46 rfl (lv_at hl 4 rfl) ?_
            refine lv_aload hx hb dX3_bestByLog_47 (lv_at hl 0 rfl) ?_
            refine g2_5 (by omega) hx hb hts i2 hown hJ k109 dX3_bestByLog_49 ?_
            refine va_mmax hx hb (hml.trans hl.1.symm) hown mlmax142 msmax0 mimax0 mcmax0 (Nat.le_of_ble_eq_true rfl) (Nat.le_of_ble_eq_true rfl) (Nat.le_of_ble_eq_true rfl) (Nat.le_of_ble_eq_true rfl) dX3_bestByLog_52 ?_
            refine lv_istore_n (lv' := [(3, .int (if g < (κ 9 j) then (κ 9 j) else g)), (5, .ref (ad (8 + j))), (0, .ref (ad 0)), (1, .int x), (2, .int y), (4, .int (nI j))]) hx hb dX3_bestByLog_55 rfl hl (by decide) rfl (fun ls hl => ?_)
            refine lv_iinc (v := nI (j + 1)) (lv' := [(4, .int (nI (j + 1))), (3, .int (if g < (κ 9 j) then (κ 9 j) else g)), (5, .ref (ad (8 + j))), (0, .ref (ad 0)), (1, .int x), (2, .int y)]) hx hb dX3_bestByLog_56 hl (k := 5) rfl (nI_1 j) (by decide) rfl (fun ls hl => ?_)
            refine lv_goto (tgt := 10) hx hb dX3_bestByLog_59 (by decide) ?_
            exact ih10 (j + 1) (if g < κ 9 j then κ 9 j else g) (by omega) (fmx_yes hg c34 c43) (by omega) _ (lv_sub hl [3, 4, 5, 1, 0] rfl)
  exact loop10 (n + 1) 0 0 (by omega) rfl (by omega) _ (lv_sub hl [2, 3, 4, 1, 0] rfl)
set_option maxRecDepth 100000 in
set_option maxHeartbeats 4000000 in
theorem c_X3_bestRow (l : Launch) (D : sD) (B : Nat) (ad : Nat → Nat) (κ : sQ) (x : Int32) (a : Int32) (b : Int32) (w : Int32) (c9 : Nat) (lo : Nat) (hh : Nat) (hx9 : x = nI c9) (hc9 : c9 < 10) (ha9 : a = nI lo) (hb9 : b = nI hh) (hlh : lo ≤ hh) (hh9 : hh < 19) : Met l yX3_bestRow wsX3_bestRow ({ frames := 2, cells := 0, slots := 0, locals := 43 } : Room) (sP D B (CW D ad κ) ([.ref (ad 0), .int x, .int a, .int b, .int w] : List Value)) (vp_Si (fun rr => rr = (upB (fun r => w * κ 1 (r * 10 + c9) * cs (midI (nI r))) lo (hh + 1 - lo)).1)) 0 0 (fun _ => False) := by
  refine s_head (cc := cX3_bestRow) (maxL := 9) (ret := (some .int)) (by decide +kernel) rfl (Nat.le_of_ble_eq_true rfl) ?_
  intro p e s m below meth c hx hb hr hlk hml hown hnm hts hB0 ls hl
  have hJ := hB0
  have hown : s.vm.findClass RX3 = some m.cls := hown
  have hl : lv_has ls 9 [(0, .ref (ad 0)), (1, .int x), (2, .int a), (3, .int b), (4, .int w)] := hl
  have k26 : (Cond.fieldLink RX3 26 "SailLog" "bestSpeeds" "LSailLog$BestSpeeds;").before ([.ref (ad 0), .int x, .int a, .int b, .int w] : List Value).toArray s = true := hts _ (by decide +kernel)
  have i3 : ∀ w ∈ wsX30, w ∈ wsX3_bestRow := by decide +kernel
  have k12 : (Cond.fieldLink RX3 12 "SailLog" "circle" "LSailLog$Circle;").before ([.ref (ad 0), .int x, .int a, .int b, .int w] : List Value).toArray s = true := hts _ (by decide +kernel)
  refine lv_iconst (v := (-1)) hx hb dX3_bestRow_0 (by decide +kernel) ?_
  refine lv_istore (lv' := [(5, .int (-1)), (0, .ref (ad 0)), (1, .int x), (2, .int a), (3, .int b), (4, .int w)]) hx hb dX3_bestRow_1 hl (by decide) rfl (fun ls hl => ?_)
  refine lv_iconst (v := 0) hx hb dX3_bestRow_3 (by decide +kernel) ?_
  refine lv_istore (lv' := [(6, .int 0), (5, .int (-1)), (0, .ref (ad 0)), (1, .int x), (2, .int a), (3, .int b), (4, .int w)]) hx hb dX3_bestRow_4 hl (by decide) rfl (fun ls hl => ?_)
  refine lv_iload_n hx hb dX3_bestRow_6 rfl (lv_at hl 4 rfl) ?_
  refine lv_topi (fun zz ezz => ?_)
  obtain rfl : zz = nI lo := ezz.trans (ha9)
  refine lv_istore (lv' := [(7, .int (nI lo)), (6, .int 0), (5, .int (-1)), (0, .ref (ad 0)), (1, .int x), (2, .int a), (3, .int b), (4, .int w)]) hx hb dX3_bestRow_7 hl (by decide) rfl (fun ls hl => ?_)
  have loop9 : ∀ (fuel : Nat) (j : Nat) (bst : Int32) (gr : Int32) (hj : lo + j ≤ hh + 1) (hg : upB (fun r => w * κ 1 (r * 10 + c9) * cs (midI (nI r))) lo j = (bst, gr)) (hfu : hh + 2 ≤ lo + j + fuel) (ls : Array Slot), lv_has ls 9 [(0, .ref (ad 0)), (1, .int x), (3, .int b), (4, .int w), (5, .int bst), (6, .int gr), (7, .int (nI (lo + j)))] → W p l e ({ frames := 2, cells := 0, slots := 0, locals := 43 } : Room) s m ([.ref (ad 0), .int x, .int a, .int b, .int w] : List Value).toArray below meth c s.heap [] 0 0 (MQ below (vp_Si (fun rr => rr = (upB (fun r => w * κ 1 (r * 10 + c9) * cs (midI (nI r))) lo (hh + 1 - lo)).1)) ([.ref (ad 0), .int x, .int a, .int b, .int w] : List Value).toArray s 0 0 (fun _ => False)) (F0 m 9 ls []) := by
    intro fuel
    induction fuel with
    | zero => intro j bst gr hj hg hfu ls hl; exact absurd (hfu) (by omega)
    | succ fuel ih9 =>
      intro j bst gr hj hg hfu ls hl
      refine lv_iload hx hb dX3_bestRow_9 (lv_at hl 6 rfl) ?_
      refine lv_iload_n hx hb dX3_bestRow_11 rfl (lv_at hl 2 rfl) ?_
      refine lv_icmp_gt (tgt := 64) hx hb dX3_bestRow_12 (by decide) (fun c12 => ?_) (fun c12 => ?_)
      ·
        refine lv_iload hx hb dX3_bestRow_64 (lv_at hl 4 rfl) ?_
        exact s_iret hx hb hr hlk dX3_bestRow_66 (by rw [hb9] at c12; have h := (nI_ltI (a := hh) (b := lo + j) (by omega) (by omega)).mp c12; rw [show hh + 1 - lo = j by omega, hg])
      ·
        rw [hb9] at c12
        have hj2 : lo + j ≤ hh := by have := mt (nI_ltI (a := hh) (b := lo + j) (by omega) (by omega)).mpr c12; omega
        refine lv_iload hx hb dX3_bestRow_15 (lv_at hl 3 rfl) ?_
        refine lv_aload_n hx hb dX3_bestRow_17 rfl (lv_at hl 0 rfl) ?_
        refine g3_2 hx hb hts i3 hown hJ k26 dX3_bestRow_18 ?_
        refine lv_iload hx hb dX3_bestRow_21 (lv_at hl 6 rfl) ?_
        refine lv_iload_n hx hb dX3_bestRow_23 rfl (lv_at hl 1 rfl) ?_
        refine s_ciV (As := [.int (nI (lo + j)), .int x]) (rest := [.int w]) ⟨hx, hb, hml, hown, hts⟩ (c_X0_kept l D B ad κ (nI (lo + j)) x (lo + j) c9 (rfl) (hx9) (by omega) (hc9)) (cwV 2 hts gX3_bestRow_X0_kept rfl rfl rfl hdV_X0_kept ⟨Nat.le_of_ble_eq_true rfl, Nat.le_of_ble_eq_true rfl⟩) (sPV hJ (ci := 0) (q0 := 4) rfl rfl) rfl hl.1 rfl (Nat.le_of_ble_eq_true rfl) dX3_bestRow_24 ⟨Nat.le_of_ble_eq_true rfl, Nat.le_of_ble_eq_true rfl⟩ ?_
        refine lv_imul hx hb dX3_bestRow_27 ?_
        refine lv_aload_n hx hb dX3_bestRow_28 rfl (lv_at hl 0 rfl) ?_
        refine g3_0 hx hb hts i3 hown hJ k12 dX3_bestRow_29 ?_
        refine lv_iload hx hb dX3_bestRow_32 (lv_at hl 6 rfl) ?_
        refine s_ciS (As := [.int (nI (lo + j))]) (rest := [.ref (ad 1), .int (w * (κ 1 ((lo + j) * 10 + c9)))]) ⟨hx, hb, hml, hown, hts⟩ (c_X3_middleOf l (nI (lo + j)) ) (va_cwS 1 hts gX3_bestRow_X3_middleOf rfl rfl rfl hdS_X3_middleOf ⟨Nat.le_of_ble_eq_true rfl, Nat.le_of_ble_eq_true rfl⟩) sPS0 rfl hl.1 rfl (Nat.le_of_ble_eq_true rfl) dX3_bestRow_34 ⟨Nat.le_of_ble_eq_true rfl, Nat.le_of_ble_eq_true rfl⟩ ?_
        refine s_ciV (As := [.int (midI (nI (lo + j)))]) (rest := [.int (w * (κ 1 ((lo + j) * 10 + c9)))]) ⟨hx, hb, hml, hown, hts⟩ (c_X1_cosineOf l D B ad κ (midI (nI (lo + j))) ) (cwV 1 hts gX3_bestRow_X1_cosineOf rfl rfl rfl hdV_X1_cosineOf ⟨Nat.le_of_ble_eq_true rfl, Nat.le_of_ble_eq_true rfl⟩) (sPV hJ (ci := 1) (q0 := 1) rfl rfl) rfl hl.1 rfl (Nat.le_of_ble_eq_true rfl) dX3_bestRow_37 ⟨Nat.le_of_ble_eq_true rfl, Nat.le_of_ble_eq_true rfl⟩ ?_
        refine lv_imul hx hb dX3_bestRow_40 ?_
        refine lv_topi (fun gg egg => ?_)
        refine lv_istore (lv' := [(8, .int gg), (0, .ref (ad 0)), (1, .int x), (3, .int b), (4, .int w), (5, .int bst), (6, .int gr), (7, .int (nI (lo + j)))]) hx hb dX3_bestRow_41 hl (by decide) rfl (fun ls hl => ?_)
        refine lv_iload hx hb dX3_bestRow_43 (lv_at hl 0 rfl) ?_
        refine lv_iload hx hb dX3_bestRow_45 (lv_at hl 6 rfl) ?_
        refine lv_icmp_le (tgt := 58) hx hb dX3_bestRow_47 (by decide) (fun c47 => ?_) (fun c47 => ?_)
        ·
          refine lv_iinc (v := nI (lo + (j + 1))) (lv' := [(7, .int (nI (lo + (j + 1)))), (8, .int gg), (0, .ref (ad 0)), (1, .int x), (3, .int b), (4, .int w), (5, .int bst), (6, .int gr)]) hx hb dX3_bestRow_58 hl (k := 7) rfl (nI_1 (lo + j)) (by decide) rfl (fun ls hl => ?_)
          refine lv_goto (tgt := 9) hx hb dX3_bestRow_61 (by decide) ?_
          exact ih9 (j + 1) bst gr (by omega) (upB_no hg egg c47) (by omega) _ (lv_sub hl [2, 3, 4, 5, 6, 7, 0] rfl)
        ·
          refine lv_iload hx hb dX3_bestRow_50 (lv_at hl 0 rfl) ?_
          refine lv_istore (lv' := [(6, .int gg), (8, .int gg), (0, .ref (ad 0)), (1, .int x), (3, .int b), (4, .int w), (5, .int bst), (7, .int (nI (lo + j)))]) hx hb dX3_bestRow_52 hl (by decide) rfl (fun ls hl => ?_)
          refine lv_iload hx hb dX3_bestRow_54 (lv_at hl 7 rfl) ?_
          refine lv_istore (lv' := [(5, .int (nI (lo + j))), (6, .int gg), (8, .int gg), (0, .ref (ad 0)), (1, .int x), (3, .int b), (4, .int w), (7, .int (nI (lo + j)))]) hx hb dX3_bestRow_56 hl (by decide) rfl (fun ls hl => ?_)
          refine lv_iinc (v := nI (lo + (j + 1))) (lv' := [(7, .int (nI (lo + (j + 1)))), (5, .int (nI (lo + j))), (6, .int gg), (8, .int gg), (0, .ref (ad 0)), (1, .int x), (3, .int b), (4, .int w)]) hx hb dX3_bestRow_58 hl (k := 7) rfl (nI_1 (lo + j)) (by decide) rfl (fun ls hl => ?_)
          refine lv_goto (tgt := 9) hx hb dX3_bestRow_61 (by decide) ?_
          exact ih9 (j + 1) (nI (lo + j)) gg (by omega) (upB_yes hg egg c47) (by omega) _ (lv_sub hl [4, 5, 6, 7, 1, 2, 0] rfl)
  exact loop9 (hh + 2) 0 (-1) 0 (by omega) rfl (by omega) _ (lv_sub hl [3, 4, 6, 7, 2, 1, 0] rfl)
set_option maxRecDepth 100000 in
set_option maxHeartbeats 4000000 in
theorem c_X3_bestUp (l : Launch) (hfl : l.flags = flags0) (D : sD) (B : Nat) (ad : Nat → Nat) (κ : sQ) (x : Int32) : vx_Met l yX3_bestUp wsX3_bestUp ({ frames := 7, cells := 1, slots := 6, locals := 102 } : Room) (sP D B (CW D ad κ) ([.ref (ad 0), .int x] : List Value)) (vp_Si (fun rr => (0 ≤ x ∧ x ≤ 9) ∧ rr = (upB (fun r => 1 * κ 1 (r * 10 + iN x) * cs (midI (nI r))) 0 9).1)) (sX (fun E => E = E_I ∧ ¬ (0 ≤ x ∧ x ≤ 9))) 1 6 (fun _ => False) := by
  refine s_headX (cc := cX3_bestUp) (maxL := 2) (ret := (some .int)) (by decide +kernel) rfl (Nat.le_of_ble_eq_true rfl) ?_
  intro p e s m below meth c hx hb hr hlk hml hown hno hts hB0 ls hl
  have hJ := hB0
  have hown : s.vm.findClass RX3 = some m.cls := hown
  have hl : lv_has ls 2 [(0, .ref (ad 0)), (1, .int x)] := hl
  refine lv_iload_n hx hb dX3_bestUp_0 rfl (lv_at hl 1 rfl) ?_
  refine s_xvS (As := [.int x]) (rest := []) ⟨hx, hb, hml, hown, hts⟩ (c_X3_checkColumn l hfl D B ad κ x ) (va_cwS 1 hts gX3_bestUp_X3_checkColumn rfl rfl rfl hdS_X3_checkColumn ⟨Nat.le_of_ble_eq_true rfl, Nat.le_of_ble_eq_true rfl⟩) (sPS hJ) rfl hl.1 rfl (Nat.le_of_ble_eq_true rfl) dX3_bestUp_1 ⟨Nat.le_of_ble_eq_true rfl, Nat.le_of_ble_eq_true rfl⟩ hno hlk (fun E h => h) (Nat.le_of_ble_eq_true rfl) (Nat.le_of_ble_eq_true rfl) (fun c1 => ?_)
  obtain ⟨ex, hxn⟩ := rng_ok 9 (by decide +kernel) (by omega) c1
  refine lv_aload_n hx hb dX3_bestUp_4 rfl (lv_at hl 0 rfl) ?_
  refine lv_iload_n hx hb dX3_bestUp_5 rfl (lv_at hl 1 rfl) ?_
  refine lv_iconst (v := 0) hx hb dX3_bestUp_6 (by decide +kernel) ?_
  refine lv_bipush (v := 8) hx hb dX3_bestUp_7 (by decide +kernel) ?_
  refine lv_iconst (v := 1) hx hb dX3_bestUp_9 (by decide +kernel) ?_
  refine s_ciV (As := [.int x, .int 0, .int 8, .int 1]) (rest := []) ⟨hx, hb, hml, hown, hts⟩ (c_X3_bestRow l D B ad κ x 0 8 1 (iN x) 0 8 (ex) (by omega) (by decide +kernel) (by decide +kernel) (by omega) (by omega)) (cwV 4 hts gX3_bestUp_X3_bestRow rfl rfl rfl hdV_X3_bestRow ⟨Nat.le_of_ble_eq_true rfl, Nat.le_of_ble_eq_true rfl⟩) (sPV hJ (ci := 3) (q0 := 0) rfl rfl) rfl hl.1 rfl (Nat.le_of_ble_eq_true rfl) dX3_bestUp_10 ⟨Nat.le_of_ble_eq_true rfl, Nat.le_of_ble_eq_true rfl⟩ ?_
  exact s_xiret hx hb hr hlk dX3_bestUp_13 (c1) (rfl) (Nat.le_of_ble_eq_true rfl) (Nat.le_of_ble_eq_true rfl)
set_option maxRecDepth 100000 in
set_option maxHeartbeats 4000000 in
theorem c_X3_bestDown (l : Launch) (hfl : l.flags = flags0) (D : sD) (B : Nat) (ad : Nat → Nat) (κ : sQ) (x : Int32) : vx_Met l yX3_bestDown wsX3_bestDown ({ frames := 7, cells := 1, slots := 6, locals := 102 } : Room) (sP D B (CW D ad κ) ([.ref (ad 0), .int x] : List Value)) (vp_Si (fun rr => (0 ≤ x ∧ x ≤ 9) ∧ rr = (upB (fun r => (-1) * κ 1 (r * 10 + iN x) * cs (midI (nI r))) 9 10).1)) (sX (fun E => E = E_I ∧ ¬ (0 ≤ x ∧ x ≤ 9))) 1 6 (fun _ => False) := by
  refine s_headX (cc := cX3_bestDown) (maxL := 2) (ret := (some .int)) (by decide +kernel) rfl (Nat.le_of_ble_eq_true rfl) ?_
  intro p e s m below meth c hx hb hr hlk hml hown hno hts hB0 ls hl
  have hJ := hB0
  have hown : s.vm.findClass RX3 = some m.cls := hown
  have hl : lv_has ls 2 [(0, .ref (ad 0)), (1, .int x)] := hl
  refine lv_iload_n hx hb dX3_bestDown_0 rfl (lv_at hl 1 rfl) ?_
  refine s_xvS (As := [.int x]) (rest := []) ⟨hx, hb, hml, hown, hts⟩ (c_X3_checkColumn l hfl D B ad κ x ) (va_cwS 1 hts gX3_bestDown_X3_checkColumn rfl rfl rfl hdS_X3_checkColumn ⟨Nat.le_of_ble_eq_true rfl, Nat.le_of_ble_eq_true rfl⟩) (sPS hJ) rfl hl.1 rfl (Nat.le_of_ble_eq_true rfl) dX3_bestDown_1 ⟨Nat.le_of_ble_eq_true rfl, Nat.le_of_ble_eq_true rfl⟩ hno hlk (fun E h => h) (Nat.le_of_ble_eq_true rfl) (Nat.le_of_ble_eq_true rfl) (fun c1 => ?_)
  obtain ⟨ex, hxn⟩ := rng_ok 9 (by decide +kernel) (by omega) c1
  refine lv_aload_n hx hb dX3_bestDown_4 rfl (lv_at hl 0 rfl) ?_
  refine lv_iload_n hx hb dX3_bestDown_5 rfl (lv_at hl 1 rfl) ?_
  refine lv_bipush (v := 9) hx hb dX3_bestDown_6 (by decide +kernel) ?_
  refine lv_bipush (v := 18) hx hb dX3_bestDown_8 (by decide +kernel) ?_
  refine lv_iconst (v := (-1)) hx hb dX3_bestDown_10 (by decide +kernel) ?_
  refine s_ciV (As := [.int x, .int 9, .int 18, .int (-1)]) (rest := []) ⟨hx, hb, hml, hown, hts⟩ (c_X3_bestRow l D B ad κ x 9 18 (-1) (iN x) 9 18 (ex) (by omega) (by decide +kernel) (by decide +kernel) (by omega) (by omega)) (cwV 4 hts gX3_bestDown_X3_bestRow rfl rfl rfl hdV_X3_bestRow ⟨Nat.le_of_ble_eq_true rfl, Nat.le_of_ble_eq_true rfl⟩) (sPV hJ (ci := 3) (q0 := 0) rfl rfl) rfl hl.1 rfl (Nat.le_of_ble_eq_true rfl) dX3_bestDown_11 ⟨Nat.le_of_ble_eq_true rfl, Nat.le_of_ble_eq_true rfl⟩ ?_
  exact s_xiret hx hb hr hlk dX3_bestDown_14 (c1) (rfl) (Nat.le_of_ble_eq_true rfl) (Nat.le_of_ble_eq_true rfl)
set_option maxRecDepth 100000 in
set_option maxHeartbeats 4000000 in
theorem c_X3_bestCourse (l : Launch) (hfl : l.flags = flags0) (D : sD) (B : Nat) (ad : Nat → Nat) (κ : sQ) (x : Int32) (f : Int32) (b : Int32) : vx_Met l yX3_bestCourse wsX3_bestCourse ({ frames := 7, cells := 3, slots := 18, locals := 102 } : Room) (sP D B (CW D ad κ) ([.ref (ad 0), .int x, .int f, .int b] : List Value)) (vp_Si (fun rr => ((0 ≤ x ∧ x ≤ 9) ∧ (0 ≤ f ∧ f ≤ 359) ∧ (0 ≤ b ∧ b ≤ 359)) ∧ rr = (upB (fun h => κ 1 (rN (t360 (f + -(nI h))) * 10 + iN x) * cs (nI h - b)) 0 360).1)) (sX (fun E => (E = E_I ∧ ¬ (0 ≤ x ∧ x ≤ 9)) ∨ (E = E_A ∧ (0 ≤ x ∧ x ≤ 9) ∧ ¬ ((0 ≤ f ∧ f ≤ 359) ∧ (0 ≤ b ∧ b ≤ 359))))) 3 18 (fun _ => False) := by
  refine s_headX (cc := cX3_bestCourse) (maxL := 9) (ret := (some .int)) (by decide +kernel) rfl (Nat.le_of_ble_eq_true rfl) ?_
  intro p e s m below meth c hx hb hr hlk hml hown hno hts hB0 ls hl
  have hJ := hB0
  have hown : s.vm.findClass RX3 = some m.cls := hown
  have hl : lv_has ls 9 [(0, .ref (ad 0)), (1, .int x), (2, .int f), (3, .int b)] := hl
  have k26 : (Cond.fieldLink RX3 26 "SailLog" "bestSpeeds" "LSailLog$BestSpeeds;").before ([.ref (ad 0), .int x, .int f, .int b] : List Value).toArray s = true := hts _ (by decide +kernel)
  have i3 : ∀ w ∈ wsX30, w ∈ wsX3_bestCourse := by decide +kernel
  have k12 : (Cond.fieldLink RX3 12 "SailLog" "circle" "LSailLog$Circle;").before ([.ref (ad 0), .int x, .int f, .int b] : List Value).toArray s = true := hts _ (by decide +kernel)
  refine lv_iload_n hx hb dX3_bestCourse_0 rfl (lv_at hl 1 rfl) ?_
  refine s_xvS (As := [.int x]) (rest := []) ⟨hx, hb, hml, hown, hts⟩ (c_X3_checkColumn l hfl D B ad κ x ) (va_cwS 1 hts gX3_bestCourse_X3_checkColumn rfl rfl rfl hdS_X3_checkColumn ⟨Nat.le_of_ble_eq_true rfl, Nat.le_of_ble_eq_true rfl⟩) (sPS hJ) rfl hl.1 rfl (Nat.le_of_ble_eq_true rfl) dX3_bestCourse_1 ⟨Nat.le_of_ble_eq_true rfl, Nat.le_of_ble_eq_true rfl⟩ hno hlk (fun E h => Or.inl h) (Nat.le_of_ble_eq_true rfl) (Nat.le_of_ble_eq_true rfl) (fun c1 => ?_)
  refine lv_iload_n hx hb dX3_bestCourse_4 rfl (lv_at hl 2 rfl) ?_
  refine s_ciS (As := [.int f]) (rest := []) ⟨hx, hb, hml, hown, hts⟩ (c_X3_isDirection l f ) (va_cwS 1 hts gX3_bestCourse_X3_isDirection rfl rfl rfl hdS_X3_isDirection ⟨Nat.le_of_ble_eq_true rfl, Nat.le_of_ble_eq_true rfl⟩) sPS0 rfl hl.1 rfl (Nat.le_of_ble_eq_true rfl) dX3_bestCourse_5 ⟨Nat.le_of_ble_eq_true rfl, Nat.le_of_ble_eq_true rfl⟩ ?_
  refine s_xvS (As := [.int (bI (0 ≤ f ∧ f ≤ 359))]) (rest := []) ⟨hx, hb, hml, hown, hts⟩ (c_X3_checkArgument l hfl D B ad κ (bI (0 ≤ f ∧ f ≤ 359)) ) (va_cwS 1 hts gX3_bestCourse_X3_checkArgument rfl rfl rfl hdS_X3_checkArgument ⟨Nat.le_of_ble_eq_true rfl, Nat.le_of_ble_eq_true rfl⟩) (sPS hJ) rfl hl.1 rfl (Nat.le_of_ble_eq_true rfl) dX3_bestCourse_8 ⟨Nat.le_of_ble_eq_true rfl, Nat.le_of_ble_eq_true rfl⟩ hno hlk (fun E h => Or.inr ⟨h.1, c1, fun q => bI_0.mp h.2 q.1⟩) (Nat.le_of_ble_eq_true rfl) (Nat.le_of_ble_eq_true rfl) (fun c8 => ?_)
  replace c8 := bI_n0.mp c8
  refine lv_iload_n hx hb dX3_bestCourse_11 rfl (lv_at hl 3 rfl) ?_
  refine s_ciS (As := [.int b]) (rest := []) ⟨hx, hb, hml, hown, hts⟩ (c_X3_isDirection l b ) (va_cwS 1 hts gX3_bestCourse_X3_isDirection rfl rfl rfl hdS_X3_isDirection ⟨Nat.le_of_ble_eq_true rfl, Nat.le_of_ble_eq_true rfl⟩) sPS0 rfl hl.1 rfl (Nat.le_of_ble_eq_true rfl) dX3_bestCourse_12 ⟨Nat.le_of_ble_eq_true rfl, Nat.le_of_ble_eq_true rfl⟩ ?_
  refine s_xvS (As := [.int (bI (0 ≤ b ∧ b ≤ 359))]) (rest := []) ⟨hx, hb, hml, hown, hts⟩ (c_X3_checkArgument l hfl D B ad κ (bI (0 ≤ b ∧ b ≤ 359)) ) (va_cwS 1 hts gX3_bestCourse_X3_checkArgument rfl rfl rfl hdS_X3_checkArgument ⟨Nat.le_of_ble_eq_true rfl, Nat.le_of_ble_eq_true rfl⟩) (sPS hJ) rfl hl.1 rfl (Nat.le_of_ble_eq_true rfl) dX3_bestCourse_15 ⟨Nat.le_of_ble_eq_true rfl, Nat.le_of_ble_eq_true rfl⟩ hno hlk (fun E h => Or.inr ⟨h.1, c1, fun q => bI_0.mp h.2 q.2⟩) (Nat.le_of_ble_eq_true rfl) (Nat.le_of_ble_eq_true rfl) (fun c15 => ?_)
  replace c15 := bI_n0.mp c15
  obtain ⟨ex, hxn⟩ := rng_ok 9 (by decide +kernel) (by omega) c1
  refine lv_iconst (v := (-1)) hx hb dX3_bestCourse_18 (by decide +kernel) ?_
  refine lv_istore (lv' := [(4, .int (-1)), (0, .ref (ad 0)), (1, .int x), (2, .int f), (3, .int b)]) hx hb dX3_bestCourse_19 hl (by decide) rfl (fun ls hl => ?_)
  refine lv_iconst (v := 0) hx hb dX3_bestCourse_21 (by decide +kernel) ?_
  refine lv_istore (lv' := [(5, .int 0), (4, .int (-1)), (0, .ref (ad 0)), (1, .int x), (2, .int f), (3, .int b)]) hx hb dX3_bestCourse_22 hl (by decide) rfl (fun ls hl => ?_)
  refine lv_iconst (v := 0) hx hb dX3_bestCourse_24 (by decide +kernel) ?_
  refine lv_istore (lv' := [(6, .int 0), (5, .int 0), (4, .int (-1)), (0, .ref (ad 0)), (1, .int x), (2, .int f), (3, .int b)]) hx hb dX3_bestCourse_25 hl (by decide) rfl (fun ls hl => ?_)
  have loop27 : ∀ (fuel : Nat) (j : Nat) (bst : Int32) (gr : Int32) (hj : j ≤ 360) (hg : upB (fun h => κ 1 (rN (t360 (f + -(nI h))) * 10 + iN x) * cs (nI h - b)) 0 j = (bst, gr)) (hfu : 361 ≤ j + fuel) (ls : Array Slot), lv_has ls 9 [(0, .ref (ad 0)), (1, .int x), (2, .int f), (3, .int b), (4, .int bst), (5, .int gr), (6, .int (nI j))] → W p l e ({ frames := 7, cells := 3, slots := 18, locals := 102 } : Room) s m ([.ref (ad 0), .int x, .int f, .int b] : List Value).toArray below meth c s.heap [] 3 18 (vx_MQ below (vp_Si (fun rr => ((0 ≤ x ∧ x ≤ 9) ∧ (0 ≤ f ∧ f ≤ 359) ∧ (0 ≤ b ∧ b ≤ 359)) ∧ rr = (upB (fun h => κ 1 (rN (t360 (f + -(nI h))) * 10 + iN x) * cs (nI h - b)) 0 360).1)) (sX (fun E => (E = E_I ∧ ¬ (0 ≤ x ∧ x ≤ 9)) ∨ (E = E_A ∧ (0 ≤ x ∧ x ≤ 9) ∧ ¬ ((0 ≤ f ∧ f ≤ 359) ∧ (0 ≤ b ∧ b ≤ 359))))) ([.ref (ad 0), .int x, .int f, .int b] : List Value).toArray s 3 18 (fun _ => False)) (F0 m 27 ls []) := by
    intro fuel
    induction fuel with
    | zero => intro j bst gr hj hg hfu ls hl; exact absurd (hfu) (by omega)
    | succ fuel ih27 =>
      intro j bst gr hj hg hfu ls hl
      refine lv_iload hx hb dX3_bestCourse_27 (lv_at hl 6 rfl) ?_
      refine lv_sipush (v := 360) hx hb dX3_bestCourse_29 (by decide +kernel) ?_
      refine lv_icmp_ge (tgt := 95) hx hb dX3_bestCourse_32 (by decide) (fun c32 => ?_) (fun c32 => ?_)
      ·
        refine lv_iload hx hb dX3_bestCourse_95 (lv_at hl 4 rfl) ?_
        exact s_xiret hx hb hr hlk dX3_bestCourse_97 (⟨c1, c8, c15⟩) (by rw [show 360 = j from by have := (nI_leI (a := 360) (b := j) (by omega) (by omega)).mp c32; omega, hg]) (Nat.le_of_ble_eq_true rfl) (Nat.le_of_ble_eq_true rfl)
      ·
        have hj2 : j < 360 := by have := mt (nI_leI (a := 360) (b := j) (by omega) (by omega)).mpr c32; omega
        obtain ⟨er, hr19⟩ := rN_ok (f + -(nI j))
        refine lv_iload_n hx hb dX3_bestCourse_35 rfl (lv_at hl 2 rfl) ?_
        refine lv_iload hx hb dX3_bestCourse_36 (lv_at hl 6 rfl) ?_
        refine lv_ineg hx hb dX3_bestCourse_38 ?_
        refine s_ciS (As := [.int f, .int (-(nI j))]) (rest := []) ⟨hx, hb, hml, hown, hts⟩ (c_X3_turned l f (-(nI j)) ) (va_cwS 2 hts gX3_bestCourse_X3_turned rfl rfl rfl hdS_X3_turned ⟨Nat.le_of_ble_eq_true rfl, Nat.le_of_ble_eq_true rfl⟩) sPS0 rfl hl.1 rfl (Nat.le_of_ble_eq_true rfl) dX3_bestCourse_39 ⟨Nat.le_of_ble_eq_true rfl, Nat.le_of_ble_eq_true rfl⟩ ?_
        refine s_ciS (As := [.int (t360 (f + (-(nI j))))]) (rest := []) ⟨hx, hb, hml, hown, hts⟩ (c_X3_openAngleOf l (t360 (f + (-(nI j)))) ) (va_cwS 1 hts gX3_bestCourse_X3_openAngleOf rfl rfl rfl hdS_X3_openAngleOf ⟨Nat.le_of_ble_eq_true rfl, Nat.le_of_ble_eq_true rfl⟩) sPS0 rfl hl.1 rfl (Nat.le_of_ble_eq_true rfl) dX3_bestCourse_42 ⟨Nat.le_of_ble_eq_true rfl, Nat.le_of_ble_eq_true rfl⟩ ?_
        refine s_ciS (As := [.int (opn (t360 (f + (-(nI j)))))]) (rest := []) ⟨hx, hb, hml, hown, hts⟩ (c_X3_rowOf l (opn (t360 (f + (-(nI j))))) ) (va_cwS 1 hts gX3_bestCourse_X3_rowOf rfl rfl rfl hdS_X3_rowOf ⟨Nat.le_of_ble_eq_true rfl, Nat.le_of_ble_eq_true rfl⟩) sPS0 rfl hl.1 rfl (Nat.le_of_ble_eq_true rfl) dX3_bestCourse_45 ⟨Nat.le_of_ble_eq_true rfl, Nat.le_of_ble_eq_true rfl⟩ ?_
        refine lv_istore (lv' := [(7, .int ((opn (t360 (f + (-(nI j))))) / 10)), (0, .ref (ad 0)), (1, .int x), (2, .int f), (3, .int b), (4, .int bst), (5, .int gr), (6, .int (nI j))]) hx hb dX3_bestCourse_48 hl (by decide) rfl (fun ls hl => ?_)
        refine lv_aload_n hx hb dX3_bestCourse_50 rfl (lv_at hl 1 rfl) ?_
        refine g3_2 hx hb hts i3 hown hJ k26 dX3_bestCourse_51 ?_
        refine lv_iload hx hb dX3_bestCourse_54 (lv_at hl 0 rfl) ?_
        refine lv_iload_n hx hb dX3_bestCourse_56 rfl (lv_at hl 2 rfl) ?_
        refine s_ciV (As := [.int ((opn (t360 (f + (-(nI j))))) / 10), .int x]) (rest := []) ⟨hx, hb, hml, hown, hts⟩ (c_X0_kept l D B ad κ ((opn (t360 (f + (-(nI j))))) / 10) x (rN (t360 (f + -(nI j)))) (iN x) (er) (ex) (hr19) (by omega)) (cwV 2 hts gX3_bestCourse_X0_kept rfl rfl rfl hdV_X0_kept ⟨Nat.le_of_ble_eq_true rfl, Nat.le_of_ble_eq_true rfl⟩) (sPV hJ (ci := 0) (q0 := 4) rfl rfl) rfl hl.1 rfl (Nat.le_of_ble_eq_true rfl) dX3_bestCourse_57 ⟨Nat.le_of_ble_eq_true rfl, Nat.le_of_ble_eq_true rfl⟩ ?_
        refine lv_aload_n hx hb dX3_bestCourse_60 rfl (lv_at hl 1 rfl) ?_
        refine g3_0 hx hb hts i3 hown hJ k12 dX3_bestCourse_61 ?_
        refine lv_iload hx hb dX3_bestCourse_64 (lv_at hl 7 rfl) ?_
        refine lv_iload_n hx hb dX3_bestCourse_66 rfl (lv_at hl 4 rfl) ?_
        refine lv_isub hx hb dX3_bestCourse_67 ?_
        refine s_ciV (As := [.int ((nI j) - b)]) (rest := [.int (κ 1 ((rN (t360 (f + -(nI j)))) * 10 + (iN x)))]) ⟨hx, hb, hml, hown, hts⟩ (c_X1_cosineOf l D B ad κ ((nI j) - b) ) (cwV 1 hts gX3_bestCourse_X1_cosineOf rfl rfl rfl hdV_X1_cosineOf ⟨Nat.le_of_ble_eq_true rfl, Nat.le_of_ble_eq_true rfl⟩) (sPV hJ (ci := 1) (q0 := 1) rfl rfl) rfl hl.1 rfl (Nat.le_of_ble_eq_true rfl) dX3_bestCourse_68 ⟨Nat.le_of_ble_eq_true rfl, Nat.le_of_ble_eq_true rfl⟩ ?_
        refine lv_imul hx hb dX3_bestCourse_71 ?_
        refine lv_topi (fun gg egg => ?_)
        refine lv_istore (lv' := [(8, .int gg), (7, .int ((opn (t360 (f + (-(nI j))))) / 10)), (0, .ref (ad 0)), (1, .int x), (2, .int f), (3, .int b), (4, .int bst), (5, .int gr), (6, .int (nI j))]) hx hb dX3_bestCourse_72 hl (by decide) rfl (fun ls hl => ?_)
        refine lv_iload hx hb dX3_bestCourse_74 (lv_at hl 0 rfl) ?_
        refine lv_iload hx hb dX3_bestCourse_76 (lv_at hl 7 rfl) ?_
        refine lv_icmp_le (tgt := 89) hx hb dX3_bestCourse_78 (by decide) (fun c78 => ?_) (fun c78 => ?_)
        ·
          refine lv_iinc (v := nI (j + 1)) (lv' := [(6, .int (nI (j + 1))), (8, .int gg), (7, .int ((opn (t360 (f + (-(nI j))))) / 10)), (0, .ref (ad 0)), (1, .int x), (2, .int f), (3, .int b), (4, .int bst), (5, .int gr)]) hx hb dX3_bestCourse_89 hl (k := 8) rfl (nI_1 j) (by decide) rfl (fun ls hl => ?_)
          refine lv_goto (tgt := 27) hx hb dX3_bestCourse_92 (by decide) ?_
          exact ih27 (j + 1) bst gr (by omega) (upB_no hg (by rw [Nat.zero_add]; exact egg) c78) (by omega) _ (lv_sub hl [3, 4, 5, 6, 7, 8, 0] rfl)
        ·
          refine lv_iload hx hb dX3_bestCourse_81 (lv_at hl 0 rfl) ?_
          refine lv_istore (lv' := [(5, .int gg), (8, .int gg), (7, .int ((opn (t360 (f + (-(nI j))))) / 10)), (0, .ref (ad 0)), (1, .int x), (2, .int f), (3, .int b), (4, .int bst), (6, .int (nI j))]) hx hb dX3_bestCourse_83 hl (by decide) rfl (fun ls hl => ?_)
          refine lv_iload hx hb dX3_bestCourse_85 (lv_at hl 8 rfl) ?_
          refine lv_istore (lv' := [(4, .int (nI j)), (5, .int gg), (8, .int gg), (7, .int ((opn (t360 (f + (-(nI j))))) / 10)), (0, .ref (ad 0)), (1, .int x), (2, .int f), (3, .int b), (6, .int (nI j))]) hx hb dX3_bestCourse_87 hl (by decide) rfl (fun ls hl => ?_)
          refine lv_iinc (v := nI (j + 1)) (lv' := [(6, .int (nI (j + 1))), (4, .int (nI j)), (5, .int gg), (8, .int gg), (7, .int ((opn (t360 (f + (-(nI j))))) / 10)), (0, .ref (ad 0)), (1, .int x), (2, .int f), (3, .int b)]) hx hb dX3_bestCourse_89 hl (k := 8) rfl (nI_1 j) (by decide) rfl (fun ls hl => ?_)
          refine lv_goto (tgt := 27) hx hb dX3_bestCourse_92 (by decide) ?_
          exact ih27 (j + 1) (nI j) gg (by omega) (by have := upB_yes hg (by rw [Nat.zero_add]; exact egg) c78; rw [Nat.zero_add] at this; exact this) (by omega) _ (lv_sub hl [5, 6, 7, 8, 1, 2, 0] rfl)
  exact loop27 361 0 (-1) 0 (by omega) rfl (by omega) _ (lv_sub hl [3, 4, 5, 6, 2, 1, 0] rfl)
