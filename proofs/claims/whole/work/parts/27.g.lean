set_option maxRecDepth 100000 in
set_option maxHeartbeats 4000000 in
theorem c_X4_in (l : Launch) (v : Int32) (lo : Int32) (hi : Int32) : Met l yX4_in wsX4_in ({ frames := 0, cells := 0, slots := 0, locals := 0 } : Room) (va_Pc ([.int v, .int lo, .int hi] : List Value) (fun _ => True)) (vp_Si (fun rr => rr = bI (lo ≤ v ∧ v ≤ hi))) 0 0 (fun _ => False) := by
  refine s_head (cc := cX4_in) (maxL := 3) (ret := (some .boolean)) (by decide +kernel) rfl (Nat.le_of_ble_eq_true rfl) ?_
  intro p e s m below meth c hx hb hr hlk hml hown hnm hts hB0 ls hl
  have hown : s.vm.findClass RX4 = some m.cls := hown
  have hl : lv_has ls 3 [(0, .int v), (1, .int lo), (2, .int hi)] := hl
  refine lv_iload_n hx hb dX4_in_0 rfl (lv_at hl 0 rfl) ?_
  refine lv_iload_n hx hb dX4_in_1 rfl (lv_at hl 1 rfl) ?_
  refine lv_icmp_lt (tgt := 14) hx hb dX4_in_2 (by decide) (fun c2 => ?_) (fun c2 => ?_)
  ·
    refine lv_iconst (v := 0) hx hb dX4_in_14 (by decide +kernel) ?_
    exact s_zret hx hb hr hlk dX4_in_15 (Or.inl rfl) (isw_a c2)
  ·
    refine lv_iload_n hx hb dX4_in_5 rfl (lv_at hl 0 rfl) ?_
    refine lv_iload_n hx hb dX4_in_6 rfl (lv_at hl 2 rfl) ?_
    refine lv_icmp_gt (tgt := 14) hx hb dX4_in_7 (by decide) (fun c7 => ?_) (fun c7 => ?_)
    ·
      refine lv_iconst (v := 0) hx hb dX4_in_14 (by decide +kernel) ?_
      exact s_zret hx hb hr hlk dX4_in_15 (Or.inl rfl) (isw_b c7)
    ·
      refine lv_iconst (v := 1) hx hb dX4_in_10 (by decide +kernel) ?_
      refine lv_goto (tgt := 15) hx hb dX4_in_11 (by decide) ?_
      exact s_zret hx hb hr hlk dX4_in_15 (Or.inr rfl) (isw_c c2 c7)
set_option maxRecDepth 100000 in
set_option maxHeartbeats 4000000 in
theorem c_X4_isColumn (l : Launch) (v : Int32) : Met l yX4_isColumn wsX4_isColumn ({ frames := 1, cells := 0, slots := 0, locals := 22 } : Room) (va_Pc ([.int v] : List Value) (fun _ => True)) (vp_Si (fun rr => rr = bI (0 ≤ v ∧ v ≤ 9))) 0 0 (fun _ => False) := by
  refine s_head (cc := cX4_isColumn) (maxL := 1) (ret := (some .boolean)) (by decide +kernel) rfl (Nat.le_of_ble_eq_true rfl) ?_
  intro p e s m below meth c hx hb hr hlk hml hown hnm hts hB0 ls hl
  have hown : s.vm.findClass RX4 = some m.cls := hown
  have hl : lv_has ls 1 [(0, .int v)] := hl
  refine lv_iload_n hx hb dX4_isColumn_0 rfl (lv_at hl 0 rfl) ?_
  refine lv_iconst (v := 0) hx hb dX4_isColumn_1 (by decide +kernel) ?_
  refine lv_bipush (v := 9) hx hb dX4_isColumn_2 (by decide +kernel) ?_
  refine s_ciS (As := [.int v, .int 0, .int 9]) (rest := []) ⟨hx, hb, hml, hown, hts⟩ (c_X4_in l v 0 9 ) (va_cwS 3 hts gX4_isColumn_X4_in rfl rfl rfl hdS_X4_in ⟨Nat.le_of_ble_eq_true rfl, Nat.le_of_ble_eq_true rfl⟩) sPS0 rfl hl.1 rfl (Nat.le_of_ble_eq_true rfl) dX4_isColumn_4 ⟨Nat.le_of_ble_eq_true rfl, Nat.le_of_ble_eq_true rfl⟩ ?_
  exact s_zret hx hb hr hlk dX4_isColumn_7 (bI_or) (rfl)
set_option maxRecDepth 100000 in
set_option maxHeartbeats 4000000 in
theorem c_X4_turned (l : Launch) (x : Int32) : Met l yX4_turned wsX4_turned ({ frames := 0, cells := 0, slots := 0, locals := 0 } : Room) (va_Pc ([.int x] : List Value) (fun _ => True)) (vp_Si (fun rr => rr = t360 x)) 0 0 (fun _ => False) := by
  refine s_head (cc := cX4_turned) (maxL := 2) (ret := (some .int)) (by decide +kernel) rfl (Nat.le_of_ble_eq_true rfl) ?_
  intro p e s m below meth c hx hb hr hlk hml hown hnm hts hB0 ls hl
  have hown : s.vm.findClass RX4 = some m.cls := hown
  have hl : lv_has ls 2 [(0, .int x)] := hl
  refine lv_iload_n hx hb dX4_turned_0 rfl (lv_at hl 0 rfl) ?_
  refine lv_sipush (v := 360) hx hb dX4_turned_1 (by decide +kernel) ?_
  refine lv_irem hx hb dX4_turned_4 (by decide +kernel) ?_
  refine lv_istore_n (lv' := [(1, .int (x - (x / 360) * 360)), (0, .int x)]) hx hb dX4_turned_5 rfl hl (by decide) rfl (fun ls hl => ?_)
  refine lv_iload_n hx hb dX4_turned_6 rfl (lv_at hl 0 rfl) ?_
  refine lv_if_ge (tgt := 18) hx hb dX4_turned_7 (by decide) (fun c7 => ?_) (fun c7 => ?_)
  ·
    refine lv_iload_n hx hb dX4_turned_18 rfl (lv_at hl 0 rfl) ?_
    exact s_iret hx hb hr hlk dX4_turned_19 (t360_pos (fun q => by rw [i32_le] at c7; rw [i32_lt] at q; omega))
  ·
    refine lv_iload_n hx hb dX4_turned_10 rfl (lv_at hl 0 rfl) ?_
    refine lv_sipush (v := 360) hx hb dX4_turned_11 (by decide +kernel) ?_
    refine lv_iadd hx hb dX4_turned_14 ?_
    refine lv_goto (tgt := 19) hx hb dX4_turned_15 (by decide) ?_
    exact s_iret hx hb hr hlk dX4_turned_19 (t360_neg (nle c7))
set_option maxRecDepth 100000 in
set_option maxHeartbeats 4000000 in
theorem c_X4_sin (l : Launch) (x : Int32) : Met l yX4_sin wsX4_sin ({ frames := 1, cells := 0, slots := 0, locals := 21 } : Room) (va_Pc ([.int x] : List Value) (fun _ => True)) (vp_Si (fun rr => rr = sn x)) 0 0 (fun _ => False) := by
  refine s_head (cc := cX4_sin) (maxL := 5) (ret := (some .int)) (by decide +kernel) rfl (Nat.le_of_ble_eq_true rfl) ?_
  intro p e s m below meth c hx hb hr hlk hml hown hnm hts hB0 ls hl
  have hown : s.vm.findClass RX4 = some m.cls := hown
  have hl : lv_has ls 5 [(0, .int x)] := hl
  have k59 : (Cond.constant RX4 59 (40500)).before ([.int x] : List Value).toArray s = true := hts _ (by decide +kernel)
  refine lv_iload_n hx hb dX4_sin_0 rfl (lv_at hl 0 rfl) ?_
  refine s_ciS (As := [.int x]) (rest := []) ⟨hx, hb, hml, hown, hts⟩ (c_X4_turned l x ) (va_cwS 1 hts gX4_sin_X4_turned rfl rfl rfl hdS_X4_turned ⟨Nat.le_of_ble_eq_true rfl, Nat.le_of_ble_eq_true rfl⟩) sPS0 rfl hl.1 rfl (Nat.le_of_ble_eq_true rfl) dX4_sin_1 ⟨Nat.le_of_ble_eq_true rfl, Nat.le_of_ble_eq_true rfl⟩ ?_
  refine lv_istore_n (lv' := [(1, .int (t360 x)), (0, .int x)]) hx hb dX4_sin_4 rfl hl (by decide) rfl (fun ls hl => ?_)
  obtain ⟨w9, hw9⟩ : ∃ w9, w9 = t360 x := ⟨_, rfl⟩
  refine lv_iload_n hx hb dX4_sin_5 rfl (lv_at hl 0 rfl) ?_
  refine lv_sipush (v := 180) hx hb dX4_sin_6 (by decide +kernel) ?_
  refine lv_irem hx hb dX4_sin_9 (by decide +kernel) ?_
  refine lv_topi (fun dd edd => ?_)
  refine lv_istore_n (lv' := [(2, .int dd), (1, .int (t360 x)), (0, .int x)]) hx hb dX4_sin_10 rfl hl (by decide) rfl (fun ls hl => ?_)
  refine lv_iload_n hx hb dX4_sin_11 rfl (lv_at hl 0 rfl) ?_
  refine lv_sipush (v := 180) hx hb dX4_sin_12 (by decide +kernel) ?_
  refine lv_iload_n hx hb dX4_sin_15 rfl (lv_at hl 0 rfl) ?_
  refine lv_isub hx hb dX4_sin_16 ?_
  refine lv_imul hx hb dX4_sin_17 ?_
  refine lv_istore_n (lv' := [(3, .int (dd * (180 - dd))), (2, .int dd), (1, .int (t360 x)), (0, .int x)]) hx hb dX4_sin_18 rfl hl (by decide) rfl (fun ls hl => ?_)
  refine lv_sipush (v := 4000) hx hb dX4_sin_19 (by decide +kernel) ?_
  refine lv_iload_n hx hb dX4_sin_22 rfl (lv_at hl 0 rfl) ?_
  refine lv_imul hx hb dX4_sin_23 ?_
  refine lv_ldc (own := RX4) hx hb hown k59 dX4_sin_24 ?_
  refine lv_iload_n hx hb dX4_sin_26 rfl (lv_at hl 0 rfl) ?_
  refine lv_isub hx hb dX4_sin_27 ?_
  refine lv_idiv hx hb dX4_sin_28 (by rw [edd]; exact sn_ne _ (k360_lt x)) ?_
  refine lv_istore (lv' := [(4, .int ((4000 * (dd * (180 - dd))) / (40500 - (dd * (180 - dd))))), (3, .int (dd * (180 - dd))), (2, .int dd), (1, .int (t360 x)), (0, .int x)]) hx hb dX4_sin_29 hl (by decide) rfl (fun ls hl => ?_)
  refine lv_iload_n hx hb dX4_sin_31 rfl (lv_at hl 3 rfl) ?_
  refine lv_sipush (v := 180) hx hb dX4_sin_32 (by decide +kernel) ?_
  refine lv_icmp_ge (tgt := 43) hx hb dX4_sin_35 (by decide) (fun c35 => ?_) (fun c35 => ?_)
  ·
    refine lv_iload hx hb dX4_sin_43 (lv_at hl 0 rfl) ?_
    refine lv_ineg hx hb dX4_sin_45 ?_
    exact s_iret hx hb hr hlk dX4_sin_46 (sn_wn edd c35)
  ·
    refine lv_iload hx hb dX4_sin_38 (lv_at hl 0 rfl) ?_
    refine lv_goto (tgt := 46) hx hb dX4_sin_40 (by decide) ?_
    exact s_iret hx hb hr hlk dX4_sin_46 (sn_w edd c35)
set_option maxRecDepth 100000 in
set_option maxHeartbeats 4000000 in
theorem c_X4_cos (l : Launch) (x : Int32) : Met l yX4_cos wsX4_cos ({ frames := 2, cells := 0, slots := 0, locals := 45 } : Room) (va_Pc ([.int x] : List Value) (fun _ => True)) (vp_Si (fun rr => rr = cs x)) 0 0 (fun _ => False) := by
  refine s_head (cc := cX4_cos) (maxL := 1) (ret := (some .int)) (by decide +kernel) rfl (Nat.le_of_ble_eq_true rfl) ?_
  intro p e s m below meth c hx hb hr hlk hml hown hnm hts hB0 ls hl
  have hown : s.vm.findClass RX4 = some m.cls := hown
  have hl : lv_has ls 1 [(0, .int x)] := hl
  refine lv_iload_n hx hb dX4_cos_0 rfl (lv_at hl 0 rfl) ?_
  refine s_ciS (As := [.int x]) (rest := []) ⟨hx, hb, hml, hown, hts⟩ (c_X4_turned l x ) (va_cwS 1 hts gX4_cos_X4_turned rfl rfl rfl hdS_X4_turned ⟨Nat.le_of_ble_eq_true rfl, Nat.le_of_ble_eq_true rfl⟩) sPS0 rfl hl.1 rfl (Nat.le_of_ble_eq_true rfl) dX4_cos_1 ⟨Nat.le_of_ble_eq_true rfl, Nat.le_of_ble_eq_true rfl⟩ ?_
  refine lv_bipush (v := 90) hx hb dX4_cos_4 (by decide +kernel) ?_
  refine lv_iadd hx hb dX4_cos_6 ?_
  refine s_ciS (As := [.int ((t360 x) + 90)]) (rest := []) ⟨hx, hb, hml, hown, hts⟩ (c_X4_sin l ((t360 x) + 90) ) (va_cwS 1 hts gX4_cos_X4_sin rfl rfl rfl hdS_X4_sin ⟨Nat.le_of_ble_eq_true rfl, Nat.le_of_ble_eq_true rfl⟩) sPS0 rfl hl.1 rfl (Nat.le_of_ble_eq_true rfl) dX4_cos_7 ⟨Nat.le_of_ble_eq_true rfl, Nat.le_of_ble_eq_true rfl⟩ ?_
  exact s_iret hx hb hr hlk dX4_cos_10 (rfl)
set_option maxRecDepth 100000 in
set_option maxHeartbeats 4000000 in
theorem c_X4_opened (l : Launch) (a : Int32) : Met l yX4_opened wsX4_opened ({ frames := 0, cells := 0, slots := 0, locals := 0 } : Room) (va_Pc ([.int a] : List Value) (fun _ => True)) (vp_Si (fun rr => rr = opn a)) 0 0 (fun _ => False) := by
  refine s_head (cc := cX4_opened) (maxL := 1) (ret := (some .int)) (by decide +kernel) rfl (Nat.le_of_ble_eq_true rfl) ?_
  intro p e s m below meth c hx hb hr hlk hml hown hnm hts hB0 ls hl
  have hown : s.vm.findClass RX4 = some m.cls := hown
  have hl : lv_has ls 1 [(0, .int a)] := hl
  refine lv_iload_n hx hb dX4_opened_0 rfl (lv_at hl 0 rfl) ?_
  refine lv_sipush (v := 360) hx hb dX4_opened_1 (by decide +kernel) ?_
  refine lv_iload_n hx hb dX4_opened_4 rfl (lv_at hl 0 rfl) ?_
  refine lv_isub hx hb dX4_opened_5 ?_
  refine lv_icmp_ge (tgt := 13) hx hb dX4_opened_6 (by decide) (fun c6 => ?_) (fun c6 => ?_)
  ·
    refine lv_sipush (v := 360) hx hb dX4_opened_13 (by decide +kernel) ?_
    refine lv_iload_n hx hb dX4_opened_16 rfl (lv_at hl 0 rfl) ?_
    refine lv_isub hx hb dX4_opened_17 ?_
    exact s_iret hx hb hr hlk dX4_opened_18 (opn_b c6)
  ·
    refine lv_iload_n hx hb dX4_opened_9 rfl (lv_at hl 0 rfl) ?_
    refine lv_goto (tgt := 18) hx hb dX4_opened_10 (by decide) ?_
    exact s_iret hx hb hr hlk dX4_opened_18 (opn_a c6)
set_option maxRecDepth 100000 in
set_option maxHeartbeats 4000000 in
theorem c_X4_middle (l : Launch) (x : Int32) (r : Nat) (hx9 : x = nI r) (hr9 : r < 19) : Met l yX4_middle wsX4_middle ({ frames := 0, cells := 0, slots := 0, locals := 0 } : Room) (va_Pc ([.int x] : List Value) (fun _ => True)) (vp_Si (fun rr => rr = midI x)) 0 0 (fun _ => False) := by
  refine s_head (cc := cX4_middle) (maxL := 1) (ret := (some .int)) (by decide +kernel) rfl (Nat.le_of_ble_eq_true rfl) ?_
  intro p e s m below meth c hx hb hr hlk hml hown hnm hts hB0 ls hl
  have hown : s.vm.findClass RX4 = some m.cls := hown
  have hl : lv_has ls 1 [(0, .int x)] := hl
  refine lv_iload_n hx hb dX4_middle_0 rfl (lv_at hl 0 rfl) ?_
  refine lv_bipush (v := 18) hx hb dX4_middle_1 (by decide +kernel) ?_
  refine lv_icmp_ne (tgt := 12) hx hb dX4_middle_3 (by decide) (fun c3 => ?_) (fun c3 => ?_)
  ·
    refine lv_bipush (v := 10) hx hb dX4_middle_12 (by decide +kernel) ?_
    refine lv_iload_n hx hb dX4_middle_14 rfl (lv_at hl 0 rfl) ?_
    refine lv_imul hx hb dX4_middle_15 ?_
    refine lv_iconst (v := 5) hx hb dX4_middle_16 (by decide +kernel) ?_
    refine lv_iadd hx hb dX4_middle_17 ?_
    exact s_iret hx hb hr hlk dX4_middle_18 (by rw [hx9] at c3 ⊢; exact mid_k r hr9 c3)
  ·
    refine lv_sipush (v := 180) hx hb dX4_middle_6 (by decide +kernel) ?_
    refine lv_goto (tgt := 18) hx hb dX4_middle_9 (by decide) ?_
    exact s_iret hx hb hr hlk dX4_middle_18 (mid_a c3)
set_option maxRecDepth 100000 in
set_option maxHeartbeats 4000000 in
theorem c_X4_root (l : Launch) (sq : Int64) (h0 : 0 ≤ sq.toInt) (h1 : sq.toInt < 2 ^ 42) : Met l yX4_root wsX4_root ({ frames := 0, cells := 0, slots := 0, locals := 0 } : Room) (va_Pc ([.long sq] : List Value) (fun _ => True)) (vp_Sl (fun rr => rr = RT sq)) 0 0 (fun _ => False) := by
  refine s_head (cc := cX4_root) (maxL := 8) (ret := (some .long)) (by decide +kernel) rfl (Nat.le_of_ble_eq_true rfl) ?_
  intro p e s m below meth c hx hb hr hlk hml hown hnm hts hB0 ls hl
  have hown : s.vm.findClass RX4 = some m.cls := hown
  have hl : lv_has ls 8 [(0, .long sq)] := hl
  have k71 : (Cond.constantLong RX4 71 (4000000)).before ([.long sq] : List Value).toArray s = true := hts _ (by decide +kernel)
  have k73 : (Cond.constantLong RX4 73 (2)).before ([.long sq] : List Value).toArray s = true := hts _ (by decide +kernel)
  obtain ⟨k, hk, hRT, h4, h5⟩ := RT_spec h0 h1
  refine lv_lconst (v := 0) hx hb dX4_root_0 (by decide +kernel) ?_
  refine lv_lstore_n (lv' := [(2, .long 0), (0, .long sq)]) hx hb dX4_root_1 rfl hl (by decide) rfl (fun ls hl => ?_)
  refine lv_ldc2 (own := RX4) hx hb hown k71 dX4_root_2 ?_
  refine lv_lstore (lv' := [(4, .long 4000000), (2, .long 0), (0, .long sq)]) hx hb dX4_root_5 hl (by decide) rfl (fun ls hl => ?_)
  have loop7 : ∀ (fuel : Nat) (a : Nat) (b : Nat) (ha : a ≤ k) (hb9 : k ≤ b) (hb4 : b ≤ 4000000) (hfu : b + 1 ≤ a + fuel) (ls : Array Slot), lv_has ls 8 [(0, .long sq), (2, .long (lN a)), (4, .long (lN b))] → W p l e ({ frames := 0, cells := 0, slots := 0, locals := 0 } : Room) s m ([.long sq] : List Value).toArray below meth c s.heap [] 0 0 (MQ below (vp_Sl (fun rr => rr = RT sq)) ([.long sq] : List Value).toArray s 0 0 (fun _ => False)) (F0 m 7 ls []) := by
    intro fuel
    induction fuel with
    | zero => intro a b ha hb9 hb4 hfu ls hl; exact absurd ((show ¬ True from by omega)) (by omega)
    | succ fuel ih7 =>
      intro a b ha hb9 hb4 hfu ls hl
      refine lv_lload_n hx hb dX4_root_7 rfl (lv_at hl 1 rfl) ?_
      refine lv_lload hx hb dX4_root_8 (lv_at hl 2 rfl) ?_
      refine W.lcmp hx hb dX4_root_10 ?_
      refine lv_if_ge (tgt := 51) hx hb dX4_root_11 (by decide) (fun c11 => ?_) (fun c11 => ?_)
      ·
        replace c11 := cmp_ge.mp c11
        refine lv_lload_n hx hb dX4_root_51 rfl (lv_at hl 1 rfl) ?_
        exact s_lret hx hb hr hlk dX4_root_52 (by rw [i64_le, lN_I (by omega), lN_I (by omega)] at c11; rw [hRT, show a = k by omega])
      ·
        replace c11 := mt cmp_ge.mpr c11
        have hab : a < b := by rw [i64_le, lN_I (by omega), lN_I (by omega)] at c11; omega
        refine lv_lload_n hx hb dX4_root_14 rfl (lv_at hl 1 rfl) ?_
        refine lv_lload hx hb dX4_root_15 (lv_at hl 2 rfl) ?_
        refine lv_ladd hx hb dX4_root_17 ?_
        refine lv_lconst (v := 1) hx hb dX4_root_18 (by decide +kernel) ?_
        refine lv_ladd hx hb dX4_root_19 ?_
        refine lv_ldc2 (own := RX4) hx hb hown k73 dX4_root_20 ?_
        refine lv_ldiv hx hb dX4_root_23 (by decide +kernel) ?_
        refine lv_topl (fun zz ezz => ?_)
        obtain rfl : zz = lN ((a + b + 1) / 2) := ezz.trans (root_mid (by omega) hb4)
        refine lv_lstore (lv' := [(6, .long (lN ((a + b + 1) / 2))), (0, .long sq), (2, .long (lN a)), (4, .long (lN b))]) hx hb dX4_root_24 hl (by decide) rfl (fun ls hl => ?_)
        refine lv_lload hx hb dX4_root_26 (lv_at hl 0 rfl) ?_
        refine lv_lload hx hb dX4_root_28 (lv_at hl 0 rfl) ?_
        refine lv_lmul hx hb dX4_root_30 ?_
        refine lv_lload_n hx hb dX4_root_31 rfl (lv_at hl 1 rfl) ?_
        refine W.lcmp hx hb dX4_root_32 ?_
        refine lv_if_gt (tgt := 42) hx hb dX4_root_33 (by decide) (fun c33 => ?_) (fun c33 => ?_)
        ·
          replace c33 := cmp_gt.mp c33
          refine lv_lload hx hb dX4_root_42 (lv_at hl 0 rfl) ?_
          refine lv_lconst (v := 1) hx hb dX4_root_44 (by decide +kernel) ?_
          refine lv_lsub hx hb dX4_root_45 ?_
          refine lv_topl (fun zz ezz => ?_)
          obtain rfl : zz = lN ((a + b + 1) / 2 - 1) := ezz.trans (lN_sub (b := 1) (by omega))
          refine lv_lstore (lv' := [(4, .long (lN ((a + b + 1) / 2 - 1))), (6, .long (lN ((a + b + 1) / 2))), (0, .long sq), (2, .long (lN a))]) hx hb dX4_root_46 hl (by decide) rfl (fun ls hl => ?_)
          refine lv_goto (tgt := 7) hx hb dX4_root_48 (by decide) ?_
          exact ih7 a ((a + b + 1) / 2 - 1) (by omega) (by have := root_hi h4 (by omega) c33; omega) (by omega) (by omega) _ (lv_sub hl [2, 3, 0] rfl)
        ·
          replace c33 := mt cmp_gt.mpr c33
          refine lv_lload hx hb dX4_root_36 (lv_at hl 0 rfl) ?_
          refine lv_lstore_n (lv' := [(2, .long (lN ((a + b + 1) / 2))), (6, .long (lN ((a + b + 1) / 2))), (0, .long sq), (4, .long (lN b))]) hx hb dX4_root_38 rfl hl (by decide) rfl (fun ls hl => ?_)
          refine lv_goto (tgt := 48) hx hb dX4_root_39 (by decide) ?_
          refine lv_goto (tgt := 7) hx hb dX4_root_48 (by decide) ?_
          exact ih7 ((a + b + 1) / 2) b (root_lo h5 (by omega) c33) (by omega) (by omega) (by omega) _ (lv_sub hl [2, 0, 3] rfl)
  exact loop7 4000001 0 4000000 (by omega) (by omega) (by omega) (by omega) _ (lv_sub hl [2, 1, 0] rfl)
