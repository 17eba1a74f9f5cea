set_option maxRecDepth 100000 in
set_option maxHeartbeats 4000000 in
theorem c_X3_checkArgument (l : Launch) (hfl : l.flags = flags0) (D : sD) (B : Nat) (ad : Nat → Nat) (κ : sQ) (v : Int32) : vx_Met l yX3_checkArgument wsX3_checkArgument ({ frames := 6, cells := 1, slots := 6, locals := 82 } : Room) (sP D B (CW D ad κ) ([.int v] : List Value)) (va_Sv (fun _ => ¬ v = 0)) (sX (fun E => E = E_A ∧ v = 0)) 1 6 (fun _ => False) := by
  refine s_headX (cc := cX3_checkArgument) (maxL := 1) (ret := none) (by decide +kernel) rfl (Nat.le_of_ble_eq_true rfl) ?_
  intro p e s m below meth c hx hb hr hlk hml hown hno hts hB0 ls hl
  have hJ := hB0
  have hown : s.vm.findClass RX3 = some m.cls := hown
  have hl : lv_has ls 1 [(0, .int v)] := hl
  refine lv_iload_n hx hb dX3_checkArgument_0 rfl (lv_at hl 0 rfl) ?_
  refine lv_if_ne (tgt := 14) hx hb dX3_checkArgument_1 (by decide) (fun c1 => ?_) (fun c1 => ?_)
  ·
    exact s_xret hx hb hr hlk dX3_checkArgument_14 (by assumption) (Nat.le_of_ble_eq_true rfl) (Nat.le_of_ble_eq_true rfl)
  ·
    refine s_throw (text := "an argument is out of range") (cls := "java/lang/IllegalArgumentException") (ik := 178) (is := 180) (ic := 182) (names := ["java/lang/RuntimeException", "java/lang/Exception"]) hx hb hfl hown (by decide +kernel) (by decide +kernel) (hts _ (by decide +kernel)) (hts _ (by decide +kernel)) (hJ.2.2.2.1.2.2.1.1) (fun w h => hts w (by first | exact List.mem_cons_of_mem _ (List.mem_append_right _ h) | exact List.mem_cons_of_mem _ (List.mem_append_left _ (List.mem_append_right _ h)) | exact List.mem_cons_of_mem _ h)) (by decide +kernel) (by decide +kernel) (hJ.2.2.2.1.2.2.2.2.2.1) (hJ.2.2.2.1.2.2.2) hJ.2.2.2.2 (hl.1.trans hml.symm) dX3_checkArgument_4 dX3_checkArgument_7 dX3_checkArgument_8 dX3_checkArgument_10 dX3_checkArgument_13 hno (Nat.le_of_ble_eq_true rfl) (Nat.le_of_ble_eq_true rfl) hlk (⟨rfl, c1⟩) ⟨Nat.le_of_ble_eq_true rfl, Nat.le_of_ble_eq_true rfl⟩ ⟨Nat.le_of_ble_eq_true rfl, Nat.le_of_ble_eq_true rfl⟩
set_option maxRecDepth 100000 in
set_option maxHeartbeats 4000000 in
theorem c_X3_checkEntry (l : Launch) (hfl : l.flags = flags0) (D : sD) (B : Nat) (ad : Nat → Nat) (κ : sQ) (x : Int32) : vx_Met l yX3_checkEntry wsX3_checkEntry ({ frames := 6, cells := 1, slots := 6, locals := 82 } : Room) (sP D B (CW D ad κ) ([.ref (ad 0), .int x] : List Value)) (va_Sv (fun _ => 0 ≤ x ∧ x ≤ (κ 0 0 - 1))) (sX (fun E => E = E_I ∧ ¬ (0 ≤ x ∧ x ≤ (κ 0 0 - 1)))) 1 6 (fun _ => False) := by
  refine s_headX (cc := cX3_checkEntry) (maxL := 2) (ret := none) (by decide +kernel) rfl (Nat.le_of_ble_eq_true rfl) ?_
  intro p e s m below meth c hx hb hr hlk hml hown hno hts hB0 ls hl
  have hJ := hB0
  have hown : s.vm.findClass RX3 = some m.cls := hown
  have hl : lv_has ls 2 [(0, .ref (ad 0)), (1, .int x)] := hl
  have k53 : (Cond.fieldLink RX3 53 "SailLog" "count" "I").before ([.ref (ad 0), .int x] : List Value).toArray s = true := hts _ (by decide +kernel)
  have i3 : ∀ w ∈ wsX30, w ∈ wsX3_checkEntry := by decide +kernel
  refine lv_iload_n hx hb dX3_checkEntry_0 rfl (lv_at hl 1 rfl) ?_
  refine lv_iconst (v := 0) hx hb dX3_checkEntry_1 (by decide +kernel) ?_
  refine lv_aload_n hx hb dX3_checkEntry_2 rfl (lv_at hl 0 rfl) ?_
  refine g3_5 hx hb hts i3 hown hJ k53 dX3_checkEntry_3 ?_
  refine lv_iconst (v := 1) hx hb dX3_checkEntry_6 (by decide +kernel) ?_
  refine lv_isub hx hb dX3_checkEntry_7 ?_
  refine s_ciS (As := [.int x, .int 0, .int ((κ 0 0) - 1)]) (rest := []) ⟨hx, hb, hml, hown, hts⟩ (c_X3_isWithin l x 0 ((κ 0 0) - 1) ) (va_cwS 3 hts gX3_checkEntry_X3_isWithin rfl rfl rfl hdS_X3_isWithin ⟨Nat.le_of_ble_eq_true rfl, Nat.le_of_ble_eq_true rfl⟩) sPS0 rfl hl.1 rfl (Nat.le_of_ble_eq_true rfl) dX3_checkEntry_8 ⟨Nat.le_of_ble_eq_true rfl, Nat.le_of_ble_eq_true rfl⟩ ?_
  refine lv_if_ne (tgt := 24) hx hb dX3_checkEntry_11 (by decide) (fun c11 => ?_) (fun c11 => ?_)
  ·
    replace c11 := bI_n0.mp c11
    exact s_xret hx hb hr hlk dX3_checkEntry_24 (by assumption) (Nat.le_of_ble_eq_true rfl) (Nat.le_of_ble_eq_true rfl)
  ·
    replace c11 := bI_0.mp c11
    refine s_throw (text := "there is no such entry") (cls := "java/lang/IndexOutOfBoundsException") (ik := 96) (is := 183) (ic := 100) (names := ["java/lang/RuntimeException", "java/lang/Exception"]) hx hb hfl hown (by decide +kernel) (by decide +kernel) (hts _ (by decide +kernel)) (hts _ (by decide +kernel)) (hJ.2.2.2.1.2.2.1.2.2.2.2.1) (fun w h => hts w (by first | exact List.mem_cons_of_mem _ (List.mem_append_right _ h) | exact List.mem_cons_of_mem _ (List.mem_append_left _ (List.mem_append_right _ h)) | exact List.mem_cons_of_mem _ h)) (by decide +kernel) (by decide +kernel) (hJ.2.2.2.1.2.2.2.2.2.2.2.1) (hJ.2.2.2.1.2.2.2) hJ.2.2.2.2 (hl.1.trans hml.symm) dX3_checkEntry_14 dX3_checkEntry_17 dX3_checkEntry_18 dX3_checkEntry_20 dX3_checkEntry_23 hno (Nat.le_of_ble_eq_true rfl) (Nat.le_of_ble_eq_true rfl) hlk (⟨rfl, c11⟩) ⟨Nat.le_of_ble_eq_true rfl, Nat.le_of_ble_eq_true rfl⟩ ⟨Nat.le_of_ble_eq_true rfl, Nat.le_of_ble_eq_true rfl⟩
set_option maxRecDepth 100000 in
set_option maxHeartbeats 4000000 in
theorem c_X3_checkColumn (l : Launch) (hfl : l.flags = flags0) (D : sD) (B : Nat) (ad : Nat → Nat) (κ : sQ) (x : Int32) : vx_Met l yX3_checkColumn wsX3_checkColumn ({ frames := 6, cells := 1, slots := 6, locals := 82 } : Room) (sP D B (CW D ad κ) ([.int x] : List Value)) (va_Sv (fun _ => 0 ≤ x ∧ x ≤ 9)) (sX (fun E => E = E_I ∧ ¬ (0 ≤ x ∧ x ≤ 9))) 1 6 (fun _ => False) := by
  refine s_headX (cc := cX3_checkColumn) (maxL := 1) (ret := none) (by decide +kernel) rfl (Nat.le_of_ble_eq_true rfl) ?_
  intro p e s m below meth c hx hb hr hlk hml hown hno hts hB0 ls hl
  have hJ := hB0
  have hown : s.vm.findClass RX3 = some m.cls := hown
  have hl : lv_has ls 1 [(0, .int x)] := hl
  refine lv_iload_n hx hb dX3_checkColumn_0 rfl (lv_at hl 0 rfl) ?_
  refine lv_iconst (v := 0) hx hb dX3_checkColumn_1 (by decide +kernel) ?_
  refine lv_bipush (v := 9) hx hb dX3_checkColumn_2 (by decide +kernel) ?_
  refine s_ciS (As := [.int x, .int 0, .int 9]) (rest := []) ⟨hx, hb, hml, hown, hts⟩ (c_X3_isWithin l x 0 9 ) (va_cwS 3 hts gX3_checkColumn_X3_isWithin rfl rfl rfl hdS_X3_isWithin ⟨Nat.le_of_ble_eq_true rfl, Nat.le_of_ble_eq_true rfl⟩) sPS0 rfl hl.1 rfl (Nat.le_of_ble_eq_true rfl) dX3_checkColumn_4 ⟨Nat.le_of_ble_eq_true rfl, Nat.le_of_ble_eq_true rfl⟩ ?_
  refine lv_if_ne (tgt := 20) hx hb dX3_checkColumn_7 (by decide) (fun c7 => ?_) (fun c7 => ?_)
  ·
    replace c7 := bI_n0.mp c7
    exact s_xret hx hb hr hlk dX3_checkColumn_20 (by assumption) (Nat.le_of_ble_eq_true rfl) (Nat.le_of_ble_eq_true rfl)
  ·
    replace c7 := bI_0.mp c7
    refine s_throw (text := "there is no such column") (cls := "java/lang/IndexOutOfBoundsException") (ik := 96) (is := 187) (ic := 100) (names := ["java/lang/RuntimeException", "java/lang/Exception"]) hx hb hfl hown (by decide +kernel) (by decide +kernel) (hts _ (by decide +kernel)) (hts _ (by decide +kernel)) (hJ.2.2.2.1.2.2.1.2.2.2.2.2.2) (fun w h => hts w (by first | exact List.mem_cons_of_mem _ (List.mem_append_right _ h) | exact List.mem_cons_of_mem _ (List.mem_append_left _ (List.mem_append_right _ h)) | exact List.mem_cons_of_mem _ h)) (by decide +kernel) (by decide +kernel) (hJ.2.2.2.1.2.2.2.2.2.2.2.1) (hJ.2.2.2.1.2.2.2) hJ.2.2.2.2 (hl.1.trans hml.symm) dX3_checkColumn_10 dX3_checkColumn_13 dX3_checkColumn_14 dX3_checkColumn_16 dX3_checkColumn_19 hno (Nat.le_of_ble_eq_true rfl) (Nat.le_of_ble_eq_true rfl) hlk (⟨rfl, c7⟩) ⟨Nat.le_of_ble_eq_true rfl, Nat.le_of_ble_eq_true rfl⟩ ⟨Nat.le_of_ble_eq_true rfl, Nat.le_of_ble_eq_true rfl⟩
set_option maxRecDepth 100000 in
set_option maxHeartbeats 4000000 in
theorem c_X3_checkField (l : Launch) (hfl : l.flags = flags0) (D : sD) (B : Nat) (ad : Nat → Nat) (κ : sQ) (x : Int32) (y : Int32) : vx_Met l yX3_checkField wsX3_checkField ({ frames := 7, cells := 1, slots := 6, locals := 102 } : Room) (sP D B (CW D ad κ) ([.int x, .int y] : List Value)) (va_Sv (fun _ => (0 ≤ x ∧ x ≤ 18) ∧ (0 ≤ y ∧ y ≤ 9))) (sX (fun E => E = E_I ∧ ¬ ((0 ≤ x ∧ x ≤ 18) ∧ (0 ≤ y ∧ y ≤ 9)))) 1 6 (fun _ => False) := by
  refine s_headX (cc := cX3_checkField) (maxL := 2) (ret := none) (by decide +kernel) rfl (Nat.le_of_ble_eq_true rfl) ?_
  intro p e s m below meth c hx hb hr hlk hml hown hno hts hB0 ls hl
  have hJ := hB0
  have hown : s.vm.findClass RX3 = some m.cls := hown
  have hl : lv_has ls 2 [(0, .int x), (1, .int y)] := hl
  refine lv_iload_n hx hb dX3_checkField_0 rfl (lv_at hl 0 rfl) ?_
  refine lv_iconst (v := 0) hx hb dX3_checkField_1 (by decide +kernel) ?_
  refine lv_bipush (v := 18) hx hb dX3_checkField_2 (by decide +kernel) ?_
  refine s_ciS (As := [.int x, .int 0, .int 18]) (rest := []) ⟨hx, hb, hml, hown, hts⟩ (c_X3_isWithin l x 0 18 ) (va_cwS 3 hts gX3_checkField_X3_isWithin rfl rfl rfl hdS_X3_isWithin ⟨Nat.le_of_ble_eq_true rfl, Nat.le_of_ble_eq_true rfl⟩) sPS0 rfl hl.1 rfl (Nat.le_of_ble_eq_true rfl) dX3_checkField_4 ⟨Nat.le_of_ble_eq_true rfl, Nat.le_of_ble_eq_true rfl⟩ ?_
  refine lv_if_ne (tgt := 20) hx hb dX3_checkField_7 (by decide) (fun c7 => ?_) (fun c7 => ?_)
  ·
    replace c7 := bI_n0.mp c7
    refine lv_iload_n hx hb dX3_checkField_20 rfl (lv_at hl 1 rfl) ?_
    refine s_xvS (As := [.int y]) (rest := []) ⟨hx, hb, hml, hown, hts⟩ (c_X3_checkColumn l hfl D B ad κ y ) (va_cwS 1 hts gX3_checkField_X3_checkColumn rfl rfl rfl hdS_X3_checkColumn ⟨Nat.le_of_ble_eq_true rfl, Nat.le_of_ble_eq_true rfl⟩) (sPS hJ) rfl hl.1 rfl (Nat.le_of_ble_eq_true rfl) dX3_checkField_21 ⟨Nat.le_of_ble_eq_true rfl, Nat.le_of_ble_eq_true rfl⟩ hno hlk (fun E h => ⟨h.1, fun q => h.2 q.2⟩) (Nat.le_of_ble_eq_true rfl) (Nat.le_of_ble_eq_true rfl) (fun c21 => ?_)
    exact s_xret hx hb hr hlk dX3_checkField_24 (⟨c7, c21⟩) (Nat.le_of_ble_eq_true rfl) (Nat.le_of_ble_eq_true rfl)
  ·
    replace c7 := bI_0.mp c7
    refine s_throw (text := "there is no such row") (cls := "java/lang/IndexOutOfBoundsException") (ik := 96) (is := 185) (ic := 100) (names := ["java/lang/RuntimeException", "java/lang/Exception"]) hx hb hfl hown (by decide +kernel) (by decide +kernel) (hts _ (by decide +kernel)) (hts _ (by decide +kernel)) (hJ.2.2.2.1.2.2.1.2.2.2.2.2.1) (fun w h => hts w (by first | exact List.mem_cons_of_mem _ (List.mem_append_right _ h) | exact List.mem_cons_of_mem _ (List.mem_append_left _ (List.mem_append_right _ h)) | exact List.mem_cons_of_mem _ h)) (by decide +kernel) (by decide +kernel) (hJ.2.2.2.1.2.2.2.2.2.2.2.1) (hJ.2.2.2.1.2.2.2) hJ.2.2.2.2 (hl.1.trans hml.symm) dX3_checkField_10 dX3_checkField_13 dX3_checkField_14 dX3_checkField_16 dX3_checkField_19 hno (Nat.le_of_ble_eq_true rfl) (Nat.le_of_ble_eq_true rfl) hlk (⟨rfl, fun h => c7 h.1⟩) ⟨Nat.le_of_ble_eq_true rfl, Nat.le_of_ble_eq_true rfl⟩ ⟨Nat.le_of_ble_eq_true rfl, Nat.le_of_ble_eq_true rfl⟩
set_option maxRecDepth 100000 in
set_option maxHeartbeats 4000000 in
theorem c_X3_rootOf (l : Launch) (sq : Int64) : Met l yX3_rootOf wsX3_rootOf ({ frames := 0, cells := 0, slots := 0, locals := 0 } : Room) (va_Pc ([.long sq] : List Value) (fun _ => True)) (vp_Sl (fun rr => rr = RT sq)) 0 0 (fun _ => False) := by
  refine s_head (cc := cX3_rootOf) (maxL := 7) (ret := (some .long)) (by decide +kernel) rfl (Nat.le_of_ble_eq_true rfl) ?_
  intro p e s m below meth c hx hb hr hlk hml hown hnm hts hB0 ls hl
  have hown : s.vm.findClass RX3 = some m.cls := hown
  have hl : lv_has ls 7 [(0, .long sq)] := hl
  refine lv_lconst (v := 0) hx hb dX3_rootOf_0 (by decide +kernel) ?_
  refine lv_lstore_n (lv' := [(2, .long 0), (0, .long sq)]) hx hb dX3_rootOf_1 rfl hl (by decide) rfl (fun ls hl => ?_)
  refine lv_bipush (v := 20) hx hb dX3_rootOf_2 (by decide +kernel) ?_
  refine lv_istore (lv' := [(4, .int 20), (2, .long 0), (0, .long sq)]) hx hb dX3_rootOf_4 hl (by decide) rfl (fun ls hl => ?_)
  have loop6 : ∀ (fuel : Nat) (j : Nat) (x : Int32) (r : Int64) (hj : j ≤ 21) (hx9 : x = nI j + -1) (hr9 : rtF sq j r = RT sq) (hfu : 22 ≤ fuel + (21 - j)) (ls : Array Slot), lv_has ls 7 [(0, .long sq), (2, .long r), (4, .int x)] → W p l e ({ frames := 0, cells := 0, slots := 0, locals := 0 } : Room) s m ([.long sq] : List Value).toArray below meth c s.heap [] 0 0 (MQ below (vp_Sl (fun rr => rr = RT sq)) ([.long sq] : List Value).toArray s 0 0 (fun _ => False)) (F0 m 6 ls []) := by
    intro fuel
    induction fuel with
    | zero => intro j x r hj hx9 hr9 hfu ls hl; exact absurd (hfu) (by omega)
    | succ fuel ih6 =>
      intro j x r hj hx9 hr9 hfu ls hl
      refine lv_iload hx hb dX3_rootOf_6 (lv_at hl 2 rfl) ?_
      refine lv_if_lt (tgt := 38) hx hb dX3_rootOf_8 (by decide) (fun c8 => ?_) (fun c8 => ?_)
      ·
        have h0 : j = 0 := cnt_0 hx9 c8 hj (by omega)
        subst h0
        refine lv_lload_n hx hb dX3_rootOf_38 rfl (lv_at hl 1 rfl) ?_
        exact s_lret hx hb hr hlk dX3_rootOf_39 (hr9)
      ·
        obtain ⟨j9, e8, e9⟩ := cnt_s hx9 c8
        refine lv_lload_n hx hb dX3_rootOf_11 rfl (lv_at hl 1 rfl) ?_
        refine lv_lconst (v := 1) hx hb dX3_rootOf_12 (by decide +kernel) ?_
        refine lv_iload hx hb dX3_rootOf_13 (lv_at hl 2 rfl) ?_
        refine lv_lshl (v := lN (2 ^ j9)) hx hb dX3_rootOf_15 (by rw [e9]; exact shl_n j9 (by omega)) ?_
        refine lv_ladd hx hb dX3_rootOf_16 ?_
        refine lv_lstore (lv' := [(5, .long (r + (lN (2 ^ j9)))), (0, .long sq), (2, .long r), (4, .int x)]) hx hb dX3_rootOf_17 hl (by decide) rfl (fun ls hl => ?_)
        refine lv_lload hx hb dX3_rootOf_19 (lv_at hl 0 rfl) ?_
        refine lv_lload hx hb dX3_rootOf_21 (lv_at hl 0 rfl) ?_
        refine lv_lmul hx hb dX3_rootOf_23 ?_
        refine lv_lload_n hx hb dX3_rootOf_24 rfl (lv_at hl 1 rfl) ?_
        refine W.lcmp hx hb dX3_rootOf_25 ?_
        refine lv_if_gt (tgt := 32) hx hb dX3_rootOf_26 (by decide) (fun c26 => ?_) (fun c26 => ?_)
        ·
          replace c26 := cmp_gt.mp c26
          refine lv_iinc (v := (x + -1)) (lv' := [(4, .int (x + -1)), (5, .long (r + (lN (2 ^ j9)))), (0, .long sq), (2, .long r)]) hx hb dX3_rootOf_32 hl (k := 3) rfl (rfl) (by decide) rfl (fun ls hl => ?_)
          refine lv_goto (tgt := 6) hx hb dX3_rootOf_35 (by decide) ?_
          exact ih6 j9 (x + -1) r (by omega) (by rw [e9]) (rt_lo (j := j) hr9 e8 c26) (by omega) _ (lv_sub hl [2, 3, 0] rfl)
        ·
          replace c26 := mt cmp_gt.mpr c26
          refine lv_lload hx hb dX3_rootOf_29 (lv_at hl 0 rfl) ?_
          refine lv_lstore_n (lv' := [(2, .long (r + (lN (2 ^ j9)))), (5, .long (r + (lN (2 ^ j9)))), (0, .long sq), (4, .int x)]) hx hb dX3_rootOf_31 rfl hl (by decide) rfl (fun ls hl => ?_)
          refine lv_iinc (v := (x + -1)) (lv' := [(4, .int (x + -1)), (2, .long (r + (lN (2 ^ j9)))), (5, .long (r + (lN (2 ^ j9)))), (0, .long sq)]) hx hb dX3_rootOf_32 hl (k := 3) rfl (rfl) (by decide) rfl (fun ls hl => ?_)
          refine lv_goto (tgt := 6) hx hb dX3_rootOf_35 (by decide) ?_
          exact ih6 j9 (x + -1) (r + lN (2 ^ j9)) (by omega) (by rw [e9]) (rt_hi (j := j) hr9 e8 c26) (by omega) _ (lv_sub hl [3, 1, 0] rfl)
  exact loop6 22 21 20 0 (by omega) (by decide +kernel) rfl (by omega) _ (lv_sub hl [2, 1, 0] rfl)
set_option maxRecDepth 100000 in
set_option maxHeartbeats 4000000 in
theorem c_X1_angleOf (l : Launch) (D : sD) (B : Nat) (ad : Nat → Nat) (κ : sQ) (ah : Int64) (ac : Int64) (hxb : -2147483648 ≤ ah.toInt ∧ ah.toInt ≤ 2147483648) (hyb : -2147483648 ≤ ac.toInt ∧ ac.toInt ≤ 2147483648) : Met l yX1_angleOf wsX1_angleOf ({ frames := 1, cells := 0, slots := 0, locals := 23 } : Room) (sP D B (CW D ad κ) ([.ref (ad 1), .long ah, .long ac] : List Value)) (vp_Si (fun rr => rr = ANG ah ac)) 0 0 (fun _ => False) := by
  refine s_head (cc := cX1_angleOf) (maxL := 13) (ret := (some .int)) (by decide +kernel) rfl (Nat.le_of_ble_eq_true rfl) ?_
  intro p e s m below meth c hx hb hr hlk hml hown hnm hts hB0 ls hl
  have hJ := hB0
  have hown : s.vm.findClass RX1 = some m.cls := hown
  have hl : lv_has ls 13 [(0, .ref (ad 1)), (1, .long ah), (3, .long ac)] := hl
  have k26 : (Cond.constantLong RX1 26 (-1)).before ([.ref (ad 1), .long ah, .long ac] : List Value).toArray s = true := hts _ (by decide +kernel)
  have k9 : (Cond.fieldLink RX1 9 "SailLog$Circle" "sines" "[I").before ([.ref (ad 1), .long ah, .long ac] : List Value).toArray s = true := hts _ (by decide +kernel)
  have i1 : ∀ w ∈ wsX10, w ∈ wsX1_angleOf := by decide +kernel
  refine lv_lload_n hx hb dX1_angleOf_0 rfl (lv_at hl 1 rfl) ?_
  refine lv_lload_n hx hb dX1_angleOf_1 rfl (lv_at hl 2 rfl) ?_
  refine s_ciS (As := [.long ah, .long ac]) (rest := []) ⟨hx, hb, hml, hown, hts⟩ (c_X1_quarterOf l ah ac ) (va_cwS 2 hts gX1_angleOf_X1_quarterOf rfl rfl rfl hdS_X1_quarterOf ⟨Nat.le_of_ble_eq_true rfl, Nat.le_of_ble_eq_true rfl⟩) sPS0 rfl hl.1 rfl (Nat.le_of_ble_eq_true rfl) dX1_angleOf_2 ⟨Nat.le_of_ble_eq_true rfl, Nat.le_of_ble_eq_true rfl⟩ ?_
  refine lv_topi (fun zz ezz => ?_)
  obtain rfl : zz = nI (qN ah.toInt ac.toInt) := ezz.trans (qtr_N ah ac)
  refine lv_bipush (v := 90) hx hb dX1_angleOf_5 (by decide +kernel) ?_
  refine lv_imul hx hb dX1_angleOf_7 ?_
  refine lv_istore (lv' := [(5, .int ((nI (qN ah.toInt ac.toInt)) * 90)), (0, .ref (ad 1)), (1, .long ah), (3, .long ac)]) hx hb dX1_angleOf_8 hl (by decide) rfl (fun ls hl => ?_)
  refine lv_iconst (v := 0) hx hb dX1_angleOf_10 (by decide +kernel) ?_
  refine lv_istore (lv' := [(6, .int 0), (5, .int ((nI (qN ah.toInt ac.toInt)) * 90)), (0, .ref (ad 1)), (1, .long ah), (3, .long ac)]) hx hb dX1_angleOf_11 hl (by decide) rfl (fun ls hl => ?_)
  refine lv_ldc2 (own := RX1) hx hb hown k26 dX1_angleOf_13 ?_
  refine lv_lstore (lv' := [(7, .long (-1)), (6, .int 0), (5, .int ((nI (qN ah.toInt ac.toInt)) * 90)), (0, .ref (ad 1)), (1, .long ah), (3, .long ac)]) hx hb dX1_angleOf_16 hl (by decide) rfl (fun ls hl => ?_)
  refine lv_iconst (v := 0) hx hb dX1_angleOf_18 (by decide +kernel) ?_
  refine lv_istore (lv' := [(9, .int 0), (7, .long (-1)), (6, .int 0), (5, .int ((nI (qN ah.toInt ac.toInt)) * 90)), (0, .ref (ad 1)), (1, .long ah), (3, .long ac)]) hx hb dX1_angleOf_19 hl (by decide) rfl (fun ls hl => ?_)
  have loop21 : ∀ (fuel : Nat) (j : Nat) (f : Nat) (far : Int64) (hj : j ≤ 91) (hab : AB ah.toInt ac.toInt (qN ah.toInt ac.toInt) j f far.toInt) (hfu : 92 ≤ j + fuel) (ls : Array Slot), lv_has ls 13 [(0, .ref (ad 1)), (1, .long ah), (3, .long ac), (5, .int (nI (qN ah.toInt ac.toInt) * 90)), (6, .int (nI f)), (7, .long far), (9, .int (nI j))] → W p l e ({ frames := 1, cells := 0, slots := 0, locals := 23 } : Room) s m ([.ref (ad 1), .long ah, .long ac] : List Value).toArray below meth c s.heap [] 0 0 (MQ below (vp_Si (fun rr => rr = ANG ah ac)) ([.ref (ad 1), .long ah, .long ac] : List Value).toArray s 0 0 (fun _ => False)) (F0 m 21 ls []) := by
    intro fuel
    induction fuel with
    | zero => intro j f far hj hab hfu ls hl; exact absurd (hfu) (by omega)
    | succ fuel ih21 =>
      intro j f far hj hab hfu ls hl
      refine lv_iload hx hb dX1_angleOf_21 (lv_at hl 6 rfl) ?_
      refine lv_bipush (v := 90) hx hb dX1_angleOf_23 (by decide +kernel) ?_
      refine lv_icmp_gt (tgt := 102) hx hb dX1_angleOf_25 (by decide) (fun c25 => ?_) (fun c25 => ?_)
      ·
        refine lv_iload hx hb dX1_angleOf_102 (lv_at hl 4 rfl) ?_
        exact s_iret hx hb hr hlk dX1_angleOf_104 (by have h := (nI_ltI (a := 90) (b := j) (by omega) (by omega)).mp c25; have e : j = 91 := (by omega); subst e; exact AB_end hxb hyb hab)
      ·
        have hj2 : j < 91 := by have := mt (nI_ltI (a := 90) (b := j) (by omega) (by omega)).mpr c25; omega
        have hf360 := AB_lt hab
        obtain ⟨a9, ha9⟩ : ∃ a9, a9 = (90 * qN ah.toInt ac.toInt + j) % 360 := ⟨_, rfl⟩
        have ha : a9 < 360 := by omega
        refine lv_iload hx hb dX1_angleOf_28 (lv_at hl 3 rfl) ?_
        refine lv_iload hx hb dX1_angleOf_30 (lv_at hl 6 rfl) ?_
        refine lv_iadd hx hb dX1_angleOf_32 ?_
        refine lv_sipush (v := 360) hx hb dX1_angleOf_33 (by decide +kernel) ?_
        refine lv_irem hx hb dX1_angleOf_36 (by decide +kernel) ?_
        refine lv_topi (fun zz ezz => ?_)
        obtain rfl : zz = nI a9 := ezz.trans (by rw [ha9]; exact ang_j (qN_lt _ _) hj2)
        refine lv_istore (lv' := [(10, .int (nI a9)), (0, .ref (ad 1)), (1, .long ah), (3, .long ac), (5, .int (nI (qN ah.toInt ac.toInt) * 90)), (6, .int (nI f)), (7, .long far), (9, .int (nI j))]) hx hb dX1_angleOf_37 hl (by decide) rfl (fun ls hl => ?_)
        refine lv_lload_n hx hb dX1_angleOf_39 rfl (lv_at hl 2 rfl) ?_
        refine lv_aload_n hx hb dX1_angleOf_40 rfl (lv_at hl 1 rfl) ?_
        refine g1_0 hx hb hts i1 hown hJ k9 dX1_angleOf_41 ?_
        refine lv_iload hx hb dX1_angleOf_44 (lv_at hl 0 rfl) ?_
        refine lv_bipush (v := 90) hx hb dX1_angleOf_46 (by decide +kernel) ?_
        refine lv_iadd hx hb dX1_angleOf_48 ?_
        refine a_sin (k := a9 + 90) hx hb hJ (nI_add a9 90) (by omega) dX1_angleOf_49 ?_
        refine lv_topi (fun zz ezz => ?_)
        obtain rfl : zz = cs (nI a9) := ezz.trans (snT_nc ha)
        refine lv_i2l hx hb dX1_angleOf_50 rfl ?_
        refine lv_lmul hx hb dX1_angleOf_51 ?_
        refine lv_lload_n hx hb dX1_angleOf_52 rfl (lv_at hl 3 rfl) ?_
        refine lv_aload_n hx hb dX1_angleOf_53 rfl (lv_at hl 1 rfl) ?_
        refine g1_0 hx hb hts i1 hown hJ k9 dX1_angleOf_54 ?_
        refine lv_iload hx hb dX1_angleOf_57 (lv_at hl 0 rfl) ?_
        refine a_sin (k := a9) hx hb hJ (rfl) (by omega) dX1_angleOf_59 ?_
        refine lv_topi (fun zz ezz => ?_)
        obtain rfl : zz = sn (nI a9) := ezz.trans (snT_n ha)
        refine lv_i2l hx hb dX1_angleOf_60 rfl ?_
        refine lv_lmul hx hb dX1_angleOf_61 ?_
        refine lv_ladd hx hb dX1_angleOf_62 ?_
        refine lv_topl (fun rr err => ?_)
        refine lv_lstore (lv' := [(11, .long rr), (10, .int (nI a9)), (0, .ref (ad 1)), (1, .long ah), (3, .long ac), (5, .int (nI (qN ah.toInt ac.toInt) * 90)), (6, .int (nI f)), (7, .long far), (9, .int (nI j))]) hx hb dX1_angleOf_63 hl (by decide) rfl (fun ls hl => ?_)
        have hrr : rr.toInt = rI ah.toInt ac.toInt ((90 * qN ah.toInt ac.toInt + j) % 360) := by rw [← ha9, err]; exact rch_int hxb hyb ha
        refine lv_lload hx hb dX1_angleOf_65 (lv_at hl 0 rfl) ?_
        refine lv_lload hx hb dX1_angleOf_67 (lv_at hl 7 rfl) ?_
        refine W.lcmp hx hb dX1_angleOf_69 ?_
        refine lv_if_gt (tgt := 88) hx hb dX1_angleOf_70 (by decide) (fun c70 => ?_) (fun c70 => ?_)
        ·
          replace c70 := cmp_gt.mp c70
          refine lv_lload hx hb dX1_angleOf_88 (lv_at hl 0 rfl) ?_
          refine lv_lstore (lv' := [(7, .long rr), (11, .long rr), (10, .int (nI a9)), (0, .ref (ad 1)), (1, .long ah), (3, .long ac), (5, .int (nI (qN ah.toInt ac.toInt) * 90)), (6, .int (nI f)), (9, .int (nI j))]) hx hb dX1_angleOf_90 hl (by decide) rfl (fun ls hl => ?_)
          refine lv_iload hx hb dX1_angleOf_92 (lv_at hl 2 rfl) ?_
          refine lv_istore (lv' := [(6, .int (nI a9)), (7, .long rr), (11, .long rr), (10, .int (nI a9)), (0, .ref (ad 1)), (1, .long ah), (3, .long ac), (5, .int (nI (qN ah.toInt ac.toInt) * 90)), (9, .int (nI j))]) hx hb dX1_angleOf_94 hl (by decide) rfl (fun ls hl => ?_)
          refine lv_iinc (v := nI (j + 1)) (lv' := [(9, .int (nI (j + 1))), (6, .int (nI a9)), (7, .long rr), (11, .long rr), (10, .int (nI a9)), (0, .ref (ad 1)), (1, .long ah), (3, .long ac), (5, .int (nI (qN ah.toInt ac.toInt) * 90))]) hx hb dX1_angleOf_96 hl (k := 8) rfl (nI_1 j) (by decide) rfl (fun ls hl => ?_)
          refine lv_goto (tgt := 21) hx hb dX1_angleOf_99 (by decide) ?_
          exact ih21 (j + 1) a9 rr (by omega) (by rw [ha9]; exact AB_take hab hrr (Or.inl (i64_lt.mp c70))) (by omega) _ (lv_sub hl [5, 6, 7, 8, 1, 2, 0] rfl)
        ·
          replace c70 := mt cmp_gt.mpr c70
          refine lv_lload hx hb dX1_angleOf_73 (lv_at hl 0 rfl) ?_
          refine lv_lload hx hb dX1_angleOf_75 (lv_at hl 7 rfl) ?_
          refine W.lcmp hx hb dX1_angleOf_77 ?_
          refine lv_if_ne (tgt := 96) hx hb dX1_angleOf_78 (by decide) (fun c78 => ?_) (fun c78 => ?_)
          ·
            replace c78 := mt cmp_eq.mpr c78
            refine lv_iinc (v := nI (j + 1)) (lv' := [(9, .int (nI (j + 1))), (11, .long rr), (10, .int (nI a9)), (0, .ref (ad 1)), (1, .long ah), (3, .long ac), (5, .int (nI (qN ah.toInt ac.toInt) * 90)), (6, .int (nI f)), (7, .long far)]) hx hb dX1_angleOf_96 hl (k := 8) rfl (nI_1 j) (by decide) rfl (fun ls hl => ?_)
            refine lv_goto (tgt := 21) hx hb dX1_angleOf_99 (by decide) ?_
            exact ih21 (j + 1) f far (by omega) (AB_leave hab hrr (fun q => c70 (i64_lt.mpr q)) (fun e => absurd (i64_ext e) c78)) (by omega) _ (lv_sub hl [3, 4, 5, 6, 7, 8, 0] rfl)
          ·
            replace c78 := cmp_eq.mp c78
            refine lv_iload hx hb dX1_angleOf_81 (lv_at hl 1 rfl) ?_
            refine lv_iload hx hb dX1_angleOf_83 (lv_at hl 6 rfl) ?_
            refine lv_icmp_ge (tgt := 96) hx hb dX1_angleOf_85 (by decide) (fun c85 => ?_) (fun c85 => ?_)
            ·
              refine lv_iinc (v := nI (j + 1)) (lv' := [(9, .int (nI (j + 1))), (11, .long rr), (10, .int (nI a9)), (0, .ref (ad 1)), (1, .long ah), (3, .long ac), (5, .int (nI (qN ah.toInt ac.toInt) * 90)), (6, .int (nI f)), (7, .long far)]) hx hb dX1_angleOf_96 hl (k := 8) rfl (nI_1 j) (by decide) rfl (fun ls hl => ?_)
              refine lv_goto (tgt := 21) hx hb dX1_angleOf_99 (by decide) ?_
              exact ih21 (j + 1) f far (by omega) (AB_leave hab hrr (fun q => c70 (i64_lt.mpr q)) (fun _ => by rw [← ha9]; exact (nI_leI (a := f) (b := a9) (by omega) (by omega)).mp c85)) (by omega) _ (lv_sub hl [3, 4, 5, 6, 7, 8, 0] rfl)
            ·
              refine lv_lload hx hb dX1_angleOf_88 (lv_at hl 0 rfl) ?_
              refine lv_lstore (lv' := [(7, .long rr), (11, .long rr), (10, .int (nI a9)), (0, .ref (ad 1)), (1, .long ah), (3, .long ac), (5, .int (nI (qN ah.toInt ac.toInt) * 90)), (6, .int (nI f)), (9, .int (nI j))]) hx hb dX1_angleOf_90 hl (by decide) rfl (fun ls hl => ?_)
              refine lv_iload hx hb dX1_angleOf_92 (lv_at hl 2 rfl) ?_
              refine lv_istore (lv' := [(6, .int (nI a9)), (7, .long rr), (11, .long rr), (10, .int (nI a9)), (0, .ref (ad 1)), (1, .long ah), (3, .long ac), (5, .int (nI (qN ah.toInt ac.toInt) * 90)), (9, .int (nI j))]) hx hb dX1_angleOf_94 hl (by decide) rfl (fun ls hl => ?_)
              refine lv_iinc (v := nI (j + 1)) (lv' := [(9, .int (nI (j + 1))), (6, .int (nI a9)), (7, .long rr), (11, .long rr), (10, .int (nI a9)), (0, .ref (ad 1)), (1, .long ah), (3, .long ac), (5, .int (nI (qN ah.toInt ac.toInt) * 90))]) hx hb dX1_angleOf_96 hl (k := 8) rfl (nI_1 j) (by decide) rfl (fun ls hl => ?_)
              refine lv_goto (tgt := 21) hx hb dX1_angleOf_99 (by decide) ?_
              exact ih21 (j + 1) a9 rr (by omega) (by rw [ha9]; exact AB_take hab hrr (Or.inr ⟨congrArg Int64.toInt c78, by rw [← ha9]; have := mt (nI_leI (a := f) (b := a9) (by omega) (by omega)).mpr c85; omega⟩)) (by omega) _ (lv_sub hl [5, 6, 7, 8, 1, 2, 0] rfl)
  exact loop21 92 0 0 (-1) (by omega) ((show (-1 : Int64).toInt = -1 from by decide +kernel) ▸ AB_0 _ _ _) (by omega) _ (lv_sub hl [4, 5, 6, 3, 2, 1, 0] rfl)
set_option maxRecDepth 100000 in
set_option maxHeartbeats 4000000 in
theorem c_X0_forget (l : Launch) (D : sD) (B : Nat) (ad : Nat → Nat) (κ : sQ) (sz : Nat) : Met l yX0_forget wsX0_forget ({ frames := 0, cells := 0, slots := 0, locals := 0 } : Room) (sPz D B (CW D ad κ) sz ([.ref (ad 4)] : List Value)) (va_Qv (S := Unit) (fun _ => True) (fun _ t => va_P D.1 vwCl (CW D ad (kfill κ 1 190)) t.heap) (rA 68 ad sz)) 0 0 (rA 68 ad sz) := by
  refine s_head (cc := cX0_forget) (maxL := 2) (ret := none) (by decide +kernel) rfl (Nat.le_of_ble_eq_true rfl) ?_
  intro p e s m below meth c hx hb hr hlk hml hown hnm hts hB0 ls hl
  obtain ⟨hsz, hJ⟩ := hB0
  have hown : s.vm.findClass RX0 = some m.cls := hown
  have hl : lv_has ls 2 [(0, .ref (ad 4))] := hl
  subst hsz
  have hS := sS.start hJ (CW_adr D ad κ)
  have k9 : (Cond.fieldLink RX0 9 "SailLog$BestSpeeds" "fields" "[I").before ([.ref (ad 4)] : List Value).toArray s = true := hts _ (by decide +kernel)
  have i0 : ∀ w ∈ wsX00, w ∈ wsX0_forget := by decide +kernel
  rw [show κ = kfill κ 1 0 from (kfill_0 κ 1).symm] at hS
  refine lv_iconst (v := 0) hx hb dX0_forget_0 (by decide +kernel) ?_
  refine lv_istore_n (lv' := [(1, .int 0), (0, .ref (ad 4))]) hx hb dX0_forget_1 rfl hl (by decide) rfl (fun ls hl => ?_)
  have loop2 : ∀ (fuel : Nat) (j : Nat) (hj : j ≤ 190) (hfu : 191 ≤ j + fuel) (H : Heap) (locs : List Loc) (hS : sS D B 68 ad (CW D ad (kfill κ 1 j)) s H locs) (ls : Array Slot), lv_has ls 2 [(0, .ref (ad 4)), (1, .int (nI j))] → W p l e ({ frames := 0, cells := 0, slots := 0, locals := 0 } : Room) s m ([.ref (ad 4)] : List Value).toArray below meth c H locs 0 0 (MQ below (va_Qv (S := Unit) (fun _ => True) (fun _ t => va_P D.1 vwCl (CW D ad (kfill κ 1 190)) t.heap) (rA 68 ad s.heap.size)) ([.ref (ad 4)] : List Value).toArray s 0 0 (rA 68 ad s.heap.size)) (F0 m 2 ls []) := by
    intro fuel
    induction fuel with
    | zero => intro j hj hfu H locs hS ls hl; exact absurd (hfu) (by omega)
    | succ fuel ih2 =>
      intro j hj hfu H locs hS ls hl
      refine lv_iload_n hx hb dX0_forget_2 rfl (lv_at hl 1 rfl) ?_
      refine lv_aload_n hx hb dX0_forget_3 rfl (lv_at hl 0 rfl) ?_
      refine g0_0 hx hb hts i0 hown hS.1 k9 dX0_forget_4 ?_
      refine a_len hx hb hS.1 dX0_forget_7 ?_
      refine lv_icmp_ge (tgt := 24) hx hb dX0_forget_8 (by decide) (fun c8 => ?_) (fun c8 => ?_)
      ·
        rw [show (CW D ad (kfill κ 1 j)) = (CW D ad (kfill κ 1 190)) from by rw [show j = 190 from by have := (nI_leI (a := 190) (b := j) (by omega) (by omega)).mp c8; omega]] at hS
        exact s_mret hx hb hr hlk dX0_forget_24 hS
      ·
        have hj2 : j < 190 := by have := mt (nI_leI (a := 190) (b := j) (by omega) (by omega)).mpr c8; omega
        refine lv_aload_n hx hb dX0_forget_11 rfl (lv_at hl 0 rfl) ?_
        refine g0_0 hx hb hts i0 hown hS.1 k9 dX0_forget_12 ?_
        refine lv_iload_n hx hb dX0_forget_15 rfl (lv_at hl 1 rfl) ?_
        refine lv_iconst (v := 0) hx hb dX0_forget_16 (by decide +kernel) ?_
        refine t_tab (k := j) hx hb hS (rfl) (by omega) dX0_forget_17 (fun H locs hS => ?_)
        rw [show kset (kfill κ 1 j) 1 j 0 = kfill κ 1 (j + 1) from kfill_s κ 1 j] at hS
        refine lv_iinc (v := nI (j + 1)) (lv' := [(1, .int (nI (j + 1))), (0, .ref (ad 4))]) hx hb dX0_forget_18 hl (k := 1) rfl (nI_1 j) (by decide) rfl (fun ls hl => ?_)
        refine lv_goto (tgt := 2) hx hb dX0_forget_21 (by decide) ?_
        exact ih2 (j + 1) (by omega) (by omega) _ _ hS _ (lv_sub hl [1, 0] rfl)
  exact loop2 191 0 (by omega) (by omega) _ _ hS _ (lv_sub hl [1, 0] rfl)
set_option maxRecDepth 100000 in
set_option maxHeartbeats 4000000 in
theorem c_X0_learn (l : Launch) (D : sD) (B : Nat) (ad : Nat → Nat) (κ : sQ) (sz : Nat) (i : Nat) (r : Nat) (c9 : Nat) (hi : i < 60) (hr1 : rowI (κ 12 i) = nI r) (hr9 : r < 19) (hc1 : colI (κ 11 i) = nI c9) (hc9 : c9 < 10) : Met l yX0_learn wsX0_learn ({ frames := 4, cells := 0, slots := 0, locals := 73 } : Room) (sPz D B (CW D ad κ) sz ([.ref (ad 4), .ref (ad (8 + i))] : List Value)) (va_Qv (S := Unit) (fun _ => True) (fun _ t => va_P D.1 vwCl (CW D ad (kset κ 1 (r * 10 + c9) (if (κ 1 (r * 10 + c9)) < (κ 9 i) then (κ 9 i) else (κ 1 (r * 10 + c9))))) t.heap) (rA 68 ad sz)) 0 0 (rA 68 ad sz) := by
  refine s_head (cc := cX0_learn) (maxL := 3) (ret := none) (by decide +kernel) rfl (Nat.le_of_ble_eq_true rfl) ?_
  intro p e s m below meth c hx hb hr hlk hml hown hnm hts hB0 ls hl
  obtain ⟨hsz, hJ⟩ := hB0
  have hown : s.vm.findClass RX0 = some m.cls := hown
  have hl : lv_has ls 3 [(0, .ref (ad 4)), (1, .ref (ad (8 + i)))] := hl
  subst hsz
  have hS := sS.start hJ (CW_adr D ad κ)
  have k9 : (Cond.fieldLink RX0 9 "SailLog$BestSpeeds" "fields" "[I").before ([.ref (ad 4), .ref (ad (8 + i))] : List Value).toArray s = true := hts _ (by decide +kernel)
  have i0 : ∀ w ∈ wsX00, w ∈ wsX0_learn := by decide +kernel
  have k24 : (Cond.fieldLink RX0 24 "SailLog$Entry" "trueSpeed" "I").before ([.ref (ad 4), .ref (ad (8 + i))] : List Value).toArray s = true := hts _ (by decide +kernel)
  have i2 : ∀ w ∈ wsX20, w ∈ wsX0_learn := by decide +kernel
  have mlmax28 : (Cond.methodLink RX0 28 Lib.Math.max.name).before ([.ref (ad 4), .ref (ad (8 + i))] : List Value).toArray s = true := hts _ (by decide +kernel)
  have msmax0 : (Cond.static Lib.Math.max.name).before ([.ref (ad 4), .ref (ad (8 + i))] : List Value).toArray s = true := hts _ (by decide +kernel)
  have mimax0 : (Cond.initialized "java/lang/Math").before ([.ref (ad 4), .ref (ad (8 + i))] : List Value).toArray s = true := hts _ (by decide +kernel)
  have mcmax0 : (Cond.code Lib.Math.max.name Lib.Math.max.code 2 (some .int)).before ([.ref (ad 4), .ref (ad (8 + i))] : List Value).toArray s = true := hts _ (by decide +kernel)
  refine lv_aload_n hx hb dX0_learn_0 rfl (lv_at hl 1 rfl) ?_
  refine s_ciV (As := []) (rest := []) ⟨hx, hb, hml, hown, hts⟩ (c_X2_row l D B ad κ i (by assumption)) (cwV 0 hts gX0_learn_X2_row rfl rfl rfl hdV_X2_row ⟨Nat.le_of_ble_eq_true rfl, Nat.le_of_ble_eq_true rfl⟩) (sPV hS.1 (ci := 2) rfl (CW_e D ad κ (by omega))) rfl hl.1 rfl (Nat.le_of_ble_eq_true rfl) dX0_learn_1 ⟨Nat.le_of_ble_eq_true rfl, Nat.le_of_ble_eq_true rfl⟩ ?_
  refine lv_bipush (v := 10) hx hb dX0_learn_4 (by decide +kernel) ?_
  refine lv_imul hx hb dX0_learn_6 ?_
  refine lv_aload_n hx hb dX0_learn_7 rfl (lv_at hl 1 rfl) ?_
  refine s_ciV (As := []) (rest := [.int ((rowI (κ 12 i)) * 10)]) ⟨hx, hb, hml, hown, hts⟩ (c_X2_column l D B ad κ i (by assumption)) (cwV 0 hts gX0_learn_X2_column rfl rfl rfl hdV_X2_column ⟨Nat.le_of_ble_eq_true rfl, Nat.le_of_ble_eq_true rfl⟩) (sPV hS.1 (ci := 2) rfl (CW_e D ad κ (by omega))) rfl hl.1 rfl (Nat.le_of_ble_eq_true rfl) dX0_learn_8 ⟨Nat.le_of_ble_eq_true rfl, Nat.le_of_ble_eq_true rfl⟩ ?_
  refine lv_iadd hx hb dX0_learn_11 ?_
  refine lv_istore_n (lv' := [(2, .int (((rowI (κ 12 i)) * 10) + (colI (κ 11 i)))), (0, .ref (ad 4)), (1, .ref (ad (8 + i)))]) hx hb dX0_learn_12 rfl hl (by decide) rfl (fun ls hl => ?_)
  refine lv_aload_n hx hb dX0_learn_13 rfl (lv_at hl 1 rfl) ?_
  refine g0_0 hx hb hts i0 hown hS.1 k9 dX0_learn_14 ?_
  refine lv_iload_n hx hb dX0_learn_17 rfl (lv_at hl 0 rfl) ?_
  refine lv_aload_n hx hb dX0_learn_18 rfl (lv_at hl 1 rfl) ?_
  refine g0_0 hx hb hts i0 hown hS.1 k9 dX0_learn_19 ?_
  refine lv_iload_n hx hb dX0_learn_22 rfl (lv_at hl 0 rfl) ?_
  refine a_tab (k := r * 10 + c9) hx hb hS.1 (by rw [hr1, hc1]; exact (congrArg (· + nI c9) (pk_mul r 10)).trans (nI_add _ _)) (by omega) dX0_learn_23 ?_
  refine lv_aload_n hx hb dX0_learn_24 rfl (lv_at hl 2 rfl) ?_
  refine g2_5 (by omega) hx hb hts i2 hown hS.1 k24 dX0_learn_25 ?_
  refine va_mmax hx hb (hml.trans hl.1.symm) hown mlmax28 msmax0 mimax0 mcmax0 (Nat.le_of_ble_eq_true rfl) (Nat.le_of_ble_eq_true rfl) (Nat.le_of_ble_eq_true rfl) (Nat.le_of_ble_eq_true rfl) dX0_learn_28 ?_
  refine t_tab (k := r * 10 + c9) hx hb hS (by rw [hr1, hc1]; exact (congrArg (· + nI c9) (pk_mul r 10)).trans (nI_add _ _)) (by omega) dX0_learn_31 (fun H locs hS => ?_)
  exact s_mret hx hb hr hlk dX0_learn_32 hS
