/-! ===== the law's helpers ===== -/
section SHelp
theorem hdW_X3_log : yX3_log.cls = RX3 ∧ yX3_log.cls ≠ "java/lang/invoke/MethodHandle" ∧ yX3_log.cls ≠ "java/lang/invoke/VarHandle" ∧ (parseMethodDescriptor yX3_log.desc).map (fun d => d.parameters.length) = some 5 := by decide +kernel
theorem hdW_X3_setFaults : yX3_setFaults.cls = RX3 ∧ yX3_setFaults.cls ≠ "java/lang/invoke/MethodHandle" ∧ yX3_setFaults.cls ≠ "java/lang/invoke/VarHandle" ∧ (parseMethodDescriptor yX3_setFaults.desc).map (fun d => d.parameters.length) = some 3 := by decide +kernel
theorem hdW_X3_setTide : yX3_setTide.cls = RX3 ∧ yX3_setTide.cls ≠ "java/lang/invoke/MethodHandle" ∧ yX3_setTide.cls ≠ "java/lang/invoke/VarHandle" ∧ (parseMethodDescriptor yX3_setTide.desc).map (fun d => d.parameters.length) = some 3 := by decide +kernel
theorem hdW_X3_speed : yX3_speed.cls = RX3 ∧ yX3_speed.cls ≠ "java/lang/invoke/MethodHandle" ∧ yX3_speed.cls ≠ "java/lang/invoke/VarHandle" ∧ (parseMethodDescriptor yX3_speed.desc).map (fun d => d.parameters.length) = some 1 := by decide +kernel
theorem hdW_X3_strength : yX3_strength.cls = RX3 ∧ yX3_strength.cls ≠ "java/lang/invoke/MethodHandle" ∧ yX3_strength.cls ≠ "java/lang/invoke/VarHandle" ∧ (parseMethodDescriptor yX3_strength.desc).map (fun d => d.parameters.length) = some 1 := by decide +kernel
theorem hdW_X3_angle : yX3_angle.cls = RX3 ∧ yX3_angle.cls ≠ "java/lang/invoke/MethodHandle" ∧ yX3_angle.cls ≠ "java/lang/invoke/VarHandle" ∧ (parseMethodDescriptor yX3_angle.desc).map (fun d => d.parameters.length) = some 1 := by decide +kernel
theorem hdW_X3_from : yX3_from.cls = RX3 ∧ yX3_from.cls ≠ "java/lang/invoke/MethodHandle" ∧ yX3_from.cls ≠ "java/lang/invoke/VarHandle" ∧ (parseMethodDescriptor yX3_from.desc).map (fun d => d.parameters.length) = some 1 := by decide +kernel
theorem hdW_X3_side : yX3_side.cls = RX3 ∧ yX3_side.cls ≠ "java/lang/invoke/MethodHandle" ∧ yX3_side.cls ≠ "java/lang/invoke/VarHandle" ∧ (parseMethodDescriptor yX3_side.desc).map (fun d => d.parameters.length) = some 1 := by decide +kernel
theorem hdW_X3_best : yX3_best.cls = RX3 ∧ yX3_best.cls ≠ "java/lang/invoke/MethodHandle" ∧ yX3_best.cls ≠ "java/lang/invoke/VarHandle" ∧ (parseMethodDescriptor yX3_best.desc).map (fun d => d.parameters.length) = some 2 := by decide +kernel
theorem hdW_X3_bestByLog : yX3_bestByLog.cls = RX3 ∧ yX3_bestByLog.cls ≠ "java/lang/invoke/MethodHandle" ∧ yX3_bestByLog.cls ≠ "java/lang/invoke/VarHandle" ∧ (parseMethodDescriptor yX3_bestByLog.desc).map (fun d => d.parameters.length) = some 2 := by decide +kernel
theorem hdW_X3_bestUp : yX3_bestUp.cls = RX3 ∧ yX3_bestUp.cls ≠ "java/lang/invoke/MethodHandle" ∧ yX3_bestUp.cls ≠ "java/lang/invoke/VarHandle" ∧ (parseMethodDescriptor yX3_bestUp.desc).map (fun d => d.parameters.length) = some 1 := by decide +kernel
theorem hdW_X3_bestDown : yX3_bestDown.cls = RX3 ∧ yX3_bestDown.cls ≠ "java/lang/invoke/MethodHandle" ∧ yX3_bestDown.cls ≠ "java/lang/invoke/VarHandle" ∧ (parseMethodDescriptor yX3_bestDown.desc).map (fun d => d.parameters.length) = some 1 := by decide +kernel
theorem hdW_X3_bestCourse : yX3_bestCourse.cls = RX3 ∧ yX3_bestCourse.cls ≠ "java/lang/invoke/MethodHandle" ∧ yX3_bestCourse.cls ≠ "java/lang/invoke/VarHandle" ∧ (parseMethodDescriptor yX3_bestCourse.desc).map (fun d => d.parameters.length) = some 3 := by decide +kernel
theorem hdW_X3_turn : yX3_turn.cls = RX3 ∧ yX3_turn.cls ≠ "java/lang/invoke/MethodHandle" ∧ yX3_turn.cls ≠ "java/lang/invoke/VarHandle" ∧ (parseMethodDescriptor yX3_turn.desc).map (fun d => d.parameters.length) = some 1 := by decide +kernel
theorem hdW_X3_cost : yX3_cost.cls = RX3 ∧ yX3_cost.cls ≠ "java/lang/invoke/MethodHandle" ∧ yX3_cost.cls ≠ "java/lang/invoke/VarHandle" ∧ (parseMethodDescriptor yX3_cost.desc).map (fun d => d.parameters.length) = some 1 := by decide +kernel
theorem hdW_X3_costs : yX3_costs.cls = RX3 ∧ yX3_costs.cls ≠ "java/lang/invoke/MethodHandle" ∧ yX3_costs.cls ≠ "java/lang/invoke/VarHandle" ∧ (parseMethodDescriptor yX3_costs.desc).map (fun d => d.parameters.length) = some 1 := by decide +kernel
theorem hdW_X3_east : yX3_east.cls = RX3 ∧ yX3_east.cls ≠ "java/lang/invoke/MethodHandle" ∧ yX3_east.cls ≠ "java/lang/invoke/VarHandle" ∧ (parseMethodDescriptor yX3_east.desc).map (fun d => d.parameters.length) = some 1 := by decide +kernel
theorem hdW_X3_north : yX3_north.cls = RX3 ∧ yX3_north.cls ≠ "java/lang/invoke/MethodHandle" ∧ yX3_north.cls ≠ "java/lang/invoke/VarHandle" ∧ (parseMethodDescriptor yX3_north.desc).map (fun d => d.parameters.length) = some 1 := by decide +kernel
theorem hdS_L_logs : yL_logs.cls ≠ "java/lang/invoke/MethodHandle" ∧ yL_logs.cls ≠ "java/lang/invoke/VarHandle" ∧ (parseMethodDescriptor yL_logs.desc).map (fun d => d.parameters.length) = some 6 := by decide +kernel
theorem hdS_L_faults : yL_faults.cls ≠ "java/lang/invoke/MethodHandle" ∧ yL_faults.cls ≠ "java/lang/invoke/VarHandle" ∧ (parseMethodDescriptor yL_faults.desc).map (fun d => d.parameters.length) = some 4 := by decide +kernel
theorem hdS_L_tides : yL_tides.cls ≠ "java/lang/invoke/MethodHandle" ∧ yL_tides.cls ≠ "java/lang/invoke/VarHandle" ∧ (parseMethodDescriptor yL_tides.desc).map (fun d => d.parameters.length) = some 4 := by decide +kernel
theorem hdS_L_speed : yL_speed.cls ≠ "java/lang/invoke/MethodHandle" ∧ yL_speed.cls ≠ "java/lang/invoke/VarHandle" ∧ (parseMethodDescriptor yL_speed.desc).map (fun d => d.parameters.length) = some 2 := by decide +kernel
theorem hdS_L_strength : yL_strength.cls ≠ "java/lang/invoke/MethodHandle" ∧ yL_strength.cls ≠ "java/lang/invoke/VarHandle" ∧ (parseMethodDescriptor yL_strength.desc).map (fun d => d.parameters.length) = some 2 := by decide +kernel
theorem hdS_L_angle : yL_angle.cls ≠ "java/lang/invoke/MethodHandle" ∧ yL_angle.cls ≠ "java/lang/invoke/VarHandle" ∧ (parseMethodDescriptor yL_angle.desc).map (fun d => d.parameters.length) = some 2 := by decide +kernel
theorem hdS_L_from : yL_from.cls ≠ "java/lang/invoke/MethodHandle" ∧ yL_from.cls ≠ "java/lang/invoke/VarHandle" ∧ (parseMethodDescriptor yL_from.desc).map (fun d => d.parameters.length) = some 2 := by decide +kernel
theorem hdS_L_side : yL_side.cls ≠ "java/lang/invoke/MethodHandle" ∧ yL_side.cls ≠ "java/lang/invoke/VarHandle" ∧ (parseMethodDescriptor yL_side.desc).map (fun d => d.parameters.length) = some 2 := by decide +kernel
theorem hdS_L_best : yL_best.cls ≠ "java/lang/invoke/MethodHandle" ∧ yL_best.cls ≠ "java/lang/invoke/VarHandle" ∧ (parseMethodDescriptor yL_best.desc).map (fun d => d.parameters.length) = some 3 := by decide +kernel
theorem hdS_L_byLog : yL_byLog.cls ≠ "java/lang/invoke/MethodHandle" ∧ yL_byLog.cls ≠ "java/lang/invoke/VarHandle" ∧ (parseMethodDescriptor yL_byLog.desc).map (fun d => d.parameters.length) = some 3 := by decide +kernel
theorem hdS_L_up : yL_up.cls ≠ "java/lang/invoke/MethodHandle" ∧ yL_up.cls ≠ "java/lang/invoke/VarHandle" ∧ (parseMethodDescriptor yL_up.desc).map (fun d => d.parameters.length) = some 2 := by decide +kernel
theorem hdS_L_down : yL_down.cls ≠ "java/lang/invoke/MethodHandle" ∧ yL_down.cls ≠ "java/lang/invoke/VarHandle" ∧ (parseMethodDescriptor yL_down.desc).map (fun d => d.parameters.length) = some 2 := by decide +kernel
theorem hdS_L_course : yL_course.cls ≠ "java/lang/invoke/MethodHandle" ∧ yL_course.cls ≠ "java/lang/invoke/VarHandle" ∧ (parseMethodDescriptor yL_course.desc).map (fun d => d.parameters.length) = some 4 := by decide +kernel
theorem hdS_L_turn : yL_turn.cls ≠ "java/lang/invoke/MethodHandle" ∧ yL_turn.cls ≠ "java/lang/invoke/VarHandle" ∧ (parseMethodDescriptor yL_turn.desc).map (fun d => d.parameters.length) = some 2 := by decide +kernel
theorem hdS_L_cost : yL_cost.cls ≠ "java/lang/invoke/MethodHandle" ∧ yL_cost.cls ≠ "java/lang/invoke/VarHandle" ∧ (parseMethodDescriptor yL_cost.desc).map (fun d => d.parameters.length) = some 2 := by decide +kernel
theorem hdS_L_costs : yL_costs.cls ≠ "java/lang/invoke/MethodHandle" ∧ yL_costs.cls ≠ "java/lang/invoke/VarHandle" ∧ (parseMethodDescriptor yL_costs.desc).map (fun d => d.parameters.length) = some 2 := by decide +kernel
theorem hdS_L_east : yL_east.cls ≠ "java/lang/invoke/MethodHandle" ∧ yL_east.cls ≠ "java/lang/invoke/VarHandle" ∧ (parseMethodDescriptor yL_east.desc).map (fun d => d.parameters.length) = some 2 := by decide +kernel
theorem hdS_L_north : yL_north.cls ≠ "java/lang/invoke/MethodHandle" ∧ yL_north.cls ≠ "java/lang/invoke/VarHandle" ∧ (parseMethodDescriptor yL_north.desc).map (fun d => d.parameters.length) = some 2 := by decide +kernel
theorem hdS_L_drawn : yL_drawn.cls ≠ "java/lang/invoke/MethodHandle" ∧ yL_drawn.cls ≠ "java/lang/invoke/VarHandle" ∧ (parseMethodDescriptor yL_drawn.desc).map (fun d => d.parameters.length) = some 2 := by decide +kernel
theorem hdS_L_refuses : yL_refuses.cls ≠ "java/lang/invoke/MethodHandle" ∧ yL_refuses.cls ≠ "java/lang/invoke/VarHandle" ∧ (parseMethodDescriptor yL_refuses.desc).map (fun d => d.parameters.length) = some 2 := by decide +kernel
theorem hdS_L_act : yL_act.cls ≠ "java/lang/invoke/MethodHandle" ∧ yL_act.cls ≠ "java/lang/invoke/VarHandle" ∧ (parseMethodDescriptor yL_act.desc).map (fun d => d.parameters.length) = some 4 := by decide +kernel
theorem hdS_L_alike : yL_alike.cls ≠ "java/lang/invoke/MethodHandle" ∧ yL_alike.cls ≠ "java/lang/invoke/VarHandle" ∧ (parseMethodDescriptor yL_alike.desc).map (fun d => d.parameters.length) = some 4 := by decide +kernel
theorem hdS_L_open : yL_open.cls ≠ "java/lang/invoke/MethodHandle" ∧ yL_open.cls ≠ "java/lang/invoke/VarHandle" ∧ (parseMethodDescriptor yL_open.desc).map (fun d => d.parameters.length) = some 1 := by decide +kernel
theorem hdS_L_holds : yL_holds.cls ≠ "java/lang/invoke/MethodHandle" ∧ yL_holds.cls ≠ "java/lang/invoke/VarHandle" ∧ (parseMethodDescriptor yL_holds.desc).map (fun d => d.parameters.length) = some 2 := by decide +kernel
theorem hdS_L_gain : yL_gain.cls ≠ "java/lang/invoke/MethodHandle" ∧ yL_gain.cls ≠ "java/lang/invoke/VarHandle" ∧ (parseMethodDescriptor yL_gain.desc).map (fun d => d.parameters.length) = some 5 := by decide +kernel
theorem hdS_L_back : yL_back.cls ≠ "java/lang/invoke/MethodHandle" ∧ yL_back.cls ≠ "java/lang/invoke/VarHandle" ∧ (parseMethodDescriptor yL_back.desc).map (fun d => d.parameters.length) = some 2 := by decide +kernel
set_option maxRecDepth 100000 in
theorem h_logs (l : Launch) (hfl : l.flags = flags0) (D : sD) (B : Nat) (ad : Nat → Nat) (κ : sQ) (sz : Nat) (x1 : Int32) (x2 : Int32) (x3 : Int32) (x4 : Int32) (x5 : Int32) (n : Nat) (hn9 : κ 0 0 = nI n) (hn60 : n ≤ 60) (hfa : 500 ≤ κ 0 1 ∧ κ 0 1 ≤ 1500) : vx_Met l yL_logs wsL_logs ({ frames := 8, cells := 6, slots := 36, locals := 128 } : Room) (sPz D B (CW D ad κ) sz ([.ref (ad 0), .int x1, .int x2, .int x3, .int x4, .int x5] : List Value)) (va_Qi (S := Unit) (fun rr _ => rr = oL ((0 ≤ x1 ∧ x1 ≤ 1439) ∧ (0 ≤ x2 ∧ x2 ≤ 300) ∧ (0 ≤ x3 ∧ x3 ≤ 359) ∧ (0 ≤ x4 ∧ x4 ≤ 600) ∧ (0 ≤ x5 ∧ x5 ≤ 359)) (n < 60 ∧ (n = 0 ∨ κ 4 (n - 1) < x1)) (nI n) (-2000000002) (-2000000003)) (fun _ t => va_P D.1 vwCl (CW D ad (if (((0 ≤ x1 ∧ x1 ≤ 1439) ∧ (0 ≤ x2 ∧ x2 ≤ 300) ∧ (0 ≤ x3 ∧ x3 ≤ 359) ∧ (0 ≤ x4 ∧ x4 ≤ 600) ∧ (0 ≤ x5 ∧ x5 ≤ 359)) ∧ (n < 60 ∧ (n = 0 ∨ κ 4 (n - 1) < x1))) then (kLog κ n x1 x2 x3 x4 x5) else κ)) t.heap) (rA 68 ad sz)) (fun _ _ _ => False) 6 36 (rA 68 ad sz) := by
  refine s_headH (cc := cL_logs) (maxL := 7) (ret := some .int) (hh := [(0, 11, 12, 13), (0, 11, 17, 16)]) (by decide +kernel) rfl (Nat.le_of_ble_eq_true rfl) ?_
  intro p e s m below meth c hx hb hr hlk hml hown hT hts hB ls hl
  obtain ⟨hsz, hJ⟩ := hB
  subst hsz
  have hown : s.vm.findClass RL = some m.cls := hown
  have hl : lv_has ls 7 [(0, .ref (ad 0)), (1, .int x1), (2, .int x2), (3, .int x3), (4, .int x4), (5, .int x5)] := hl
  have hS := rS.start (n := 68) (ad := ad) hJ.nil
  have hC := hJ.2.2.2.1.2.2.2
  have k15 : (Cond.constant RL 15 (-2000000002)).before ([.ref (ad 0), .int x1, .int x2, .int x3, .int x4, .int x5] : List Value).toArray s = true := hts _ (by decide +kernel)
  have k18 : (Cond.constant RL 18 (-2000000003)).before ([.ref (ad 0), .int x1, .int x2, .int x3, .int x4, .int x5] : List Value).toArray s = true := hts _ (by decide +kernel)
  refine lv_aload_n hx hb dL_logs_0 rfl (lv_at hl 0 rfl) ?_
  refine lv_iload_n hx hb dL_logs_1 rfl (lv_at hl 1 rfl) ?_
  refine lv_iload_n hx hb dL_logs_2 rfl (lv_at hl 2 rfl) ?_
  refine lv_iload_n hx hb dL_logs_3 rfl (lv_at hl 3 rfl) ?_
  refine lv_iload hx hb dL_logs_4 (lv_at hl 4 rfl) ?_
  refine lv_iload hx hb dL_logs_6 (lv_at hl 5 rfl) ?_
  refine l_hm (vx_runV (As := [.int x1, .int x2, .int x3, .int x4, .int x5]) (rest := []) ⟨hx, hb, hml, hown, hts⟩ (c_X3_log l hfl D B ad κ s.heap.size x1 x2 x3 x4 x5 n hn9 hn60 hfa) (cwV 5 hts gL_logs_X3_log rfl rfl rfl hdW_X3_log ⟨Nat.le_of_ble_eq_true rfl, Nat.le_of_ble_eq_true rfl⟩) (sPVz hJ (ci := 3) (q0 := 0) rfl rfl) rfl rfl hl.1 rfl (lv_room (Nat.le_of_ble_eq_true rfl)) dL_logs_8 ⟨Nat.le_of_ble_eq_true rfl, Nat.le_of_ble_eq_true rfl⟩) hS (fun E ce q9 H locs hE hS hce hv hcl => ?_) (fun H locs hok hS => ?_)
  ·
    rcases hE with ⟨rfl, hna⟩ | ⟨rfl, ha, hnb⟩
    ·
      have hno : ¬ ((((0 ≤ x1 ∧ x1 ≤ 1439) ∧ (0 ≤ x2 ∧ x2 ≤ 300) ∧ (0 ≤ x3 ∧ x3 ≤ 359) ∧ (0 ≤ x4 ∧ x4 ≤ 600) ∧ (0 ≤ x5 ∧ x5 ≤ 359)) ∧ (n < 60 ∧ (n = 0 ∨ κ 4 (n - 1) < x1)))) := fun q => hna q.1
      refine vx_catch (own := RL) (name := E_A) hown [] ⟨0, 11, 12, 13⟩ [⟨0, 11, 17, 16⟩] hT (fun z hz => absurd hz List.not_mem_nil) rfl (by decide) (hts (.classLink RL 13 E_A) (by decide +kernel)) (va_Nw.use rfl hC.2.2.1) hce hv hcl ?_
      refine lv_astore (lv' := [(6, .ref q9), (0, .ref (ad 0)), (1, .int x1), (2, .int x2), (3, .int x3), (4, .int x4), (5, .int x5)]) hx hb dL_logs_12 hl (by decide) rfl (fun ls hl => ?_)
      refine lv_ldc (own := RL) hx hb hown k15 dL_logs_14 ?_
      exact l_mret hx hb hr hlk dL_logs_16 ((oL_a hna).symm) ((if_neg hno).symm) hS (Nat.le_of_ble_eq_true rfl) (Nat.le_of_ble_eq_true rfl)
    ·
      have hno : ¬ ((((0 ≤ x1 ∧ x1 ≤ 1439) ∧ (0 ≤ x2 ∧ x2 ≤ 300) ∧ (0 ≤ x3 ∧ x3 ≤ 359) ∧ (0 ≤ x4 ∧ x4 ≤ 600) ∧ (0 ≤ x5 ∧ x5 ≤ 359)) ∧ (n < 60 ∧ (n = 0 ∨ κ 4 (n - 1) < x1)))) := fun q => hnb q.2
      refine vx_catch (own := RL) (name := E_S) hown [⟨0, 11, 12, 13⟩] ⟨0, 11, 17, 16⟩ [] hT (fun z hz => by cases List.mem_singleton.mp hz; exact Or.inr ⟨(by decide), E_A, hts (.classLink RL 13 E_A) (by decide +kernel), hC.1⟩) rfl (by decide) (hts (.classLink RL 16 E_S) (by decide +kernel)) (va_Nw.use rfl hC.2.2.2.1) hce hv hcl ?_
      refine lv_astore (lv' := [(6, .ref q9), (0, .ref (ad 0)), (1, .int x1), (2, .int x2), (3, .int x3), (4, .int x4), (5, .int x5)]) hx hb dL_logs_17 hl (by decide) rfl (fun ls hl => ?_)
      refine lv_ldc (own := RL) hx hb hown k18 dL_logs_19 ?_
      exact l_mret hx hb hr hlk dL_logs_21 ((oL_b ha hnb).symm) ((if_neg hno).symm) hS (Nat.le_of_ble_eq_true rfl) (Nat.le_of_ble_eq_true rfl)
  ·
    exact l_mret hx hb hr hlk dL_logs_11 ((oL_t hok.1 hok.2).symm) ((if_pos hok).symm) hS (Nat.le_of_ble_eq_true rfl) (Nat.le_of_ble_eq_true rfl)
set_option maxRecDepth 100000 in
theorem h_faults (l : Launch) (hfl : l.flags = flags0) (D : sD) (B : Nat) (ad : Nat → Nat) (κ : sQ) (sz : Nat) (f : Int32) (c1 : Int32) (v : Int32) (n : Nat) (hn9 : κ 0 0 = nI n) (hn60 : n ≤ 60) (hok : ∀ i, i < n → (0 ≤ κ 5 i ∧ κ 5 i ≤ 300) ∧ (0 ≤ κ 7 i ∧ κ 7 i ≤ 600)) : vx_Met l yL_faults wsL_faults ({ frames := 8, cells := 3, slots := 18, locals := 140 } : Room) (sPz D B (CW D ad κ) sz ([.ref (ad 0), .int f, .int c1, .int v] : List Value)) (va_Qi (S := Unit) (fun rr _ => rr = oV (((500 ≤ f ∧ f ≤ 1500) ∧ ((-20) ≤ c1 ∧ c1 ≤ 20) ∧ ((-20) ≤ v ∧ v ≤ 20))) (κ 0 1) (-2000000002)) (fun _ t => va_P D.1 vwCl (CW D ad (if ((500 ≤ f ∧ f ≤ 1500) ∧ ((-20) ≤ c1 ∧ c1 ≤ 20) ∧ ((-20) ≤ v ∧ v ≤ 20)) then (kAll (kF κ f c1 v) n) else κ)) t.heap) (rA 68 ad sz)) (fun _ _ _ => False) 3 18 (rA 68 ad sz) := by
  refine s_headH (cc := cL_faults) (maxL := 5) (ret := some .int) (hh := [(0, 7, 8, 13)]) (by decide +kernel) rfl (Nat.le_of_ble_eq_true rfl) ?_
  intro p e s m below meth c hx hb hr hlk hml hown hT hts hB ls hl
  obtain ⟨hsz, hJ⟩ := hB
  subst hsz
  have hown : s.vm.findClass RL = some m.cls := hown
  have hl : lv_has ls 5 [(0, .ref (ad 0)), (1, .int f), (2, .int c1), (3, .int v)] := hl
  have hS := rS.start (n := 68) (ad := ad) hJ.nil
  have hC := hJ.2.2.2.1.2.2.2
  have k15 : (Cond.constant RL 15 (-2000000002)).before ([.ref (ad 0), .int f, .int c1, .int v] : List Value).toArray s = true := hts _ (by decide +kernel)
  refine lv_aload_n hx hb dL_faults_0 rfl (lv_at hl 0 rfl) ?_
  refine lv_iload_n hx hb dL_faults_1 rfl (lv_at hl 1 rfl) ?_
  refine lv_iload_n hx hb dL_faults_2 rfl (lv_at hl 2 rfl) ?_
  refine lv_iload_n hx hb dL_faults_3 rfl (lv_at hl 3 rfl) ?_
  refine l_hm (vx_runV (As := [.int f, .int c1, .int v]) (rest := []) ⟨hx, hb, hml, hown, hts⟩ (c_X3_setFaults l hfl D B ad κ s.heap.size f c1 v n hn9 hn60 hok) (cwV 3 hts gL_faults_X3_setFaults rfl rfl rfl hdW_X3_setFaults ⟨Nat.le_of_ble_eq_true rfl, Nat.le_of_ble_eq_true rfl⟩) (sPVz hJ (ci := 3) (q0 := 0) rfl rfl) rfl rfl hl.1 rfl (lv_room (Nat.le_of_ble_eq_true rfl)) dL_faults_4 ⟨Nat.le_of_ble_eq_true rfl, Nat.le_of_ble_eq_true rfl⟩) hS (fun E ce q9 H locs hE hS hce hv hcl => ?_) (fun H locs hok hS => ?_)
  ·
    obtain ⟨rfl, hno⟩ := hE
    refine vx_catch (own := RL) (name := E_A) hown [] ⟨0, 7, 8, 13⟩ [] hT (fun z hz => absurd hz List.not_mem_nil) rfl (by decide) (hts (.classLink RL 13 E_A) (by decide +kernel)) (va_Nw.use rfl hC.2.2.1) hce hv hcl ?_
    refine lv_astore (lv' := [(4, .ref q9), (0, .ref (ad 0)), (1, .int f), (2, .int c1), (3, .int v)]) hx hb dL_faults_8 hl (by decide) rfl (fun ls hl => ?_)
    refine lv_ldc (own := RL) hx hb hown k15 dL_faults_10 ?_
    exact l_mret hx hb hr hlk dL_faults_12 ((oV_f hno).symm) ((if_neg hno).symm) hS (Nat.le_of_ble_eq_true rfl) (Nat.le_of_ble_eq_true rfl)
  ·
    exact l_mret hx hb hr hlk dL_faults_7 ((oV_t hok).symm) ((if_pos hok).symm) hS (Nat.le_of_ble_eq_true rfl) (Nat.le_of_ble_eq_true rfl)
set_option maxRecDepth 100000 in
theorem h_tides (l : Launch) (hfl : l.flags = flags0) (D : sD) (B : Nat) (ad : Nat → Nat) (κ : sQ) (sz : Nat) (h : Int32) (d : Int32) (r9 : Int32) : vx_Met l yL_tides wsL_tides ({ frames := 8, cells := 3, slots := 18, locals := 126 } : Room) (sPz D B (CW D ad κ) sz ([.ref (ad 0), .int h, .int d, .int r9] : List Value)) (va_Qi (S := Unit) (fun rr _ => rr = oL (0 ≤ h ∧ h ≤ 23) ((0 ≤ d ∧ d ≤ 359) ∧ (0 ≤ r9 ∧ r9 ≤ 100)) (κ 3 (iN h)) (-2000000001) (-2000000002)) (fun _ t => va_P D.1 vwCl (CW D ad (if ((0 ≤ h ∧ h ≤ 23) ∧ (0 ≤ d ∧ d ≤ 359) ∧ (0 ≤ r9 ∧ r9 ≤ 100)) then (kset (kset κ 2 (iN h) d) 3 (iN h) r9) else κ)) t.heap) (rA 68 ad sz)) (fun _ _ _ => False) 3 18 (rA 68 ad sz) := by
  refine s_headH (cc := cL_tides) (maxL := 5) (ret := some .int) (hh := [(0, 7, 8, 26), (0, 7, 13, 13)]) (by decide +kernel) rfl (Nat.le_of_ble_eq_true rfl) ?_
  intro p e s m below meth c hx hb hr hlk hml hown hT hts hB ls hl
  obtain ⟨hsz, hJ⟩ := hB
  subst hsz
  have hown : s.vm.findClass RL = some m.cls := hown
  have hl : lv_has ls 5 [(0, .ref (ad 0)), (1, .int h), (2, .int d), (3, .int r9)] := hl
  have hS := rS.start (n := 68) (ad := ad) hJ.nil
  have hC := hJ.2.2.2.1.2.2.2
  have k28 : (Cond.constant RL 28 (-2000000001)).before ([.ref (ad 0), .int h, .int d, .int r9] : List Value).toArray s = true := hts _ (by decide +kernel)
  have k15 : (Cond.constant RL 15 (-2000000002)).before ([.ref (ad 0), .int h, .int d, .int r9] : List Value).toArray s = true := hts _ (by decide +kernel)
  refine lv_aload_n hx hb dL_tides_0 rfl (lv_at hl 0 rfl) ?_
  refine lv_iload_n hx hb dL_tides_1 rfl (lv_at hl 1 rfl) ?_
  refine lv_iload_n hx hb dL_tides_2 rfl (lv_at hl 2 rfl) ?_
  refine lv_iload_n hx hb dL_tides_3 rfl (lv_at hl 3 rfl) ?_
  refine l_hm (vx_runV (As := [.int h, .int d, .int r9]) (rest := []) ⟨hx, hb, hml, hown, hts⟩ (c_X3_setTide l hfl D B ad κ s.heap.size h d r9) (cwV 3 hts gL_tides_X3_setTide rfl rfl rfl hdW_X3_setTide ⟨Nat.le_of_ble_eq_true rfl, Nat.le_of_ble_eq_true rfl⟩) (sPVz hJ (ci := 3) (q0 := 0) rfl rfl) rfl rfl hl.1 rfl (lv_room (Nat.le_of_ble_eq_true rfl)) dL_tides_4 ⟨Nat.le_of_ble_eq_true rfl, Nat.le_of_ble_eq_true rfl⟩) hS (fun E ce q9 H locs hE hS hce hv hcl => ?_) (fun H locs hok hS => ?_)
  ·
    rcases hE with ⟨rfl, hna⟩ | ⟨rfl, ha, hnb⟩
    ·
      have hno : ¬ (((0 ≤ h ∧ h ≤ 23) ∧ (0 ≤ d ∧ d ≤ 359) ∧ (0 ≤ r9 ∧ r9 ≤ 100))) := fun q => hna q.1
      refine vx_catch (own := RL) (name := E_I) hown [] ⟨0, 7, 8, 26⟩ [⟨0, 7, 13, 13⟩] hT (fun z hz => absurd hz List.not_mem_nil) rfl (by decide) (hts (.classLink RL 26 E_I) (by decide +kernel)) (va_Nw.use rfl hC.2.2.2.2.1) hce hv hcl ?_
      refine lv_astore (lv' := [(4, .ref q9), (0, .ref (ad 0)), (1, .int h), (2, .int d), (3, .int r9)]) hx hb dL_tides_8 hl (by decide) rfl (fun ls hl => ?_)
      refine lv_ldc (own := RL) hx hb hown k28 dL_tides_10 ?_
      exact l_mret hx hb hr hlk dL_tides_12 ((oL_a hna).symm) ((if_neg hno).symm) hS (Nat.le_of_ble_eq_true rfl) (Nat.le_of_ble_eq_true rfl)
    ·
      have hno : ¬ (((0 ≤ h ∧ h ≤ 23) ∧ (0 ≤ d ∧ d ≤ 359) ∧ (0 ≤ r9 ∧ r9 ≤ 100))) := fun q => hnb q.2
      refine vx_catch (own := RL) (name := E_A) hown [⟨0, 7, 8, 26⟩] ⟨0, 7, 13, 13⟩ [] hT (fun z hz => by cases List.mem_singleton.mp hz; exact Or.inr ⟨(by decide), E_I, hts (.classLink RL 26 E_I) (by decide +kernel), hC.2.1⟩) rfl (by decide) (hts (.classLink RL 13 E_A) (by decide +kernel)) (va_Nw.use rfl hC.2.2.1) hce hv hcl ?_
      refine lv_astore (lv' := [(4, .ref q9), (0, .ref (ad 0)), (1, .int h), (2, .int d), (3, .int r9)]) hx hb dL_tides_13 hl (by decide) rfl (fun ls hl => ?_)
      refine lv_ldc (own := RL) hx hb hown k15 dL_tides_15 ?_
      exact l_mret hx hb hr hlk dL_tides_17 ((oL_b ha hnb).symm) ((if_neg hno).symm) hS (Nat.le_of_ble_eq_true rfl) (Nat.le_of_ble_eq_true rfl)
  ·
    exact l_mret hx hb hr hlk dL_tides_7 ((oL_t hok.1 hok.2).symm) ((if_pos hok).symm) hS (Nat.le_of_ble_eq_true rfl) (Nat.le_of_ble_eq_true rfl)
set_option maxRecDepth 100000 in
theorem h_speed (l : Launch) (hfl : l.flags = flags0) (D : sD) (B : Nat) (ad : Nat → Nat) (κ : sQ) (sz : Nat) (x : Int32) (n : Nat) (hn9 : κ 0 0 = nI n) (hn60 : n ≤ 60) : vx_Met l yL_speed wsL_speed ({ frames := 8, cells := 1, slots := 6, locals := 124 } : Room) (sPz D B (CW D ad κ) sz ([.ref (ad 0), .int x] : List Value)) (va_Qi (S := Unit) (fun rr _ => rr = oV ((0 ≤ x ∧ x ≤ (κ 0 0 - 1))) (κ 9 (iN x)) (-2000000001)) (fun _ _ => True) (rA 0 ad sz)) (fun _ _ _ => False) 1 6 (rA 0 ad sz) := by
  refine s_headH (cc := cL_speed) (maxL := 3) (ret := some .int) (hh := [(0, 5, 6, 26)]) (by decide +kernel) rfl (Nat.le_of_ble_eq_true rfl) ?_
  intro p e s m below meth c hx hb hr hlk hml hown hT hts hB ls hl
  obtain ⟨hsz, hJ⟩ := hB
  subst hsz
  have hown : s.vm.findClass RL = some m.cls := hown
  have hl : lv_has ls 3 [(0, .ref (ad 0)), (1, .int x)] := hl
  have hS := rS.start (n := 0) (ad := ad) hJ
  have hC := hJ.2.2.2.1.2.2.2
  have k28 : (Cond.constant RL 28 (-2000000001)).before ([.ref (ad 0), .int x] : List Value).toArray s = true := hts _ (by decide +kernel)
  refine lv_aload_n hx hb dL_speed_0 rfl (lv_at hl 0 rfl) ?_
  refine lv_iload_n hx hb dL_speed_1 rfl (lv_at hl 1 rfl) ?_
  refine l_hp (vx_runV (As := [.int x]) (rest := []) ⟨hx, hb, hml, hown, hts⟩ (c_X3_speed l hfl D B ad κ x n hn9 hn60) (cwV 1 hts gL_speed_X3_speed rfl rfl rfl hdW_X3_speed ⟨Nat.le_of_ble_eq_true rfl, Nat.le_of_ble_eq_true rfl⟩) (sPV hJ (ci := 3) (q0 := 0) rfl rfl) rfl rfl hl.1 rfl (lv_room (Nat.le_of_ble_eq_true rfl)) dL_speed_2 ⟨Nat.le_of_ble_eq_true rfl, Nat.le_of_ble_eq_true rfl⟩) hS (fun E ce q9 H locs hE hS hce hv hcl => ?_) (fun H locs hok hS => ?_)
  ·
    obtain ⟨rfl, hno⟩ := hE
    refine vx_catch (own := RL) (name := E_I) hown [] ⟨0, 5, 6, 26⟩ [] hT (fun z hz => absurd hz List.not_mem_nil) rfl (by decide) (hts (.classLink RL 26 E_I) (by decide +kernel)) (va_Nw.use rfl hC.2.2.2.2.1) hce hv hcl ?_
    refine lv_astore_n (lv' := [(2, .ref q9), (0, .ref (ad 0)), (1, .int x)]) hx hb dL_speed_6 rfl hl (by decide) rfl (fun ls hl => ?_)
    refine lv_ldc (own := RL) hx hb hown k28 dL_speed_7 ?_
    exact l_rret hx hb hr hlk dL_speed_9 ((oV_f hno).symm) hS (Nat.le_of_ble_eq_true rfl) (Nat.le_of_ble_eq_true rfl)
  ·
    exact l_rret hx hb hr hlk dL_speed_5 ((oV_t hok).symm) hS (Nat.le_of_ble_eq_true rfl) (Nat.le_of_ble_eq_true rfl)
set_option maxRecDepth 100000 in
theorem h_strength (l : Launch) (hfl : l.flags = flags0) (D : sD) (B : Nat) (ad : Nat → Nat) (κ : sQ) (sz : Nat) (x : Int32) (n : Nat) (hn9 : κ 0 0 = nI n) (hn60 : n ≤ 60) : vx_Met l yL_strength wsL_strength ({ frames := 8, cells := 1, slots := 6, locals := 124 } : Room) (sPz D B (CW D ad κ) sz ([.ref (ad 0), .int x] : List Value)) (va_Qi (S := Unit) (fun rr _ => rr = oV ((0 ≤ x ∧ x ≤ (κ 0 0 - 1))) (κ 11 (iN x)) (-2000000001)) (fun _ _ => True) (rA 0 ad sz)) (fun _ _ _ => False) 1 6 (rA 0 ad sz) := by
  refine s_headH (cc := cL_strength) (maxL := 3) (ret := some .int) (hh := [(0, 5, 6, 26)]) (by decide +kernel) rfl (Nat.le_of_ble_eq_true rfl) ?_
  intro p e s m below meth c hx hb hr hlk hml hown hT hts hB ls hl
  obtain ⟨hsz, hJ⟩ := hB
  subst hsz
  have hown : s.vm.findClass RL = some m.cls := hown
  have hl : lv_has ls 3 [(0, .ref (ad 0)), (1, .int x)] := hl
  have hS := rS.start (n := 0) (ad := ad) hJ
  have hC := hJ.2.2.2.1.2.2.2
  have k28 : (Cond.constant RL 28 (-2000000001)).before ([.ref (ad 0), .int x] : List Value).toArray s = true := hts _ (by decide +kernel)
  refine lv_aload_n hx hb dL_strength_0 rfl (lv_at hl 0 rfl) ?_
  refine lv_iload_n hx hb dL_strength_1 rfl (lv_at hl 1 rfl) ?_
  refine l_hp (vx_runV (As := [.int x]) (rest := []) ⟨hx, hb, hml, hown, hts⟩ (c_X3_strength l hfl D B ad κ x n hn9 hn60) (cwV 1 hts gL_strength_X3_strength rfl rfl rfl hdW_X3_strength ⟨Nat.le_of_ble_eq_true rfl, Nat.le_of_ble_eq_true rfl⟩) (sPV hJ (ci := 3) (q0 := 0) rfl rfl) rfl rfl hl.1 rfl (lv_room (Nat.le_of_ble_eq_true rfl)) dL_strength_2 ⟨Nat.le_of_ble_eq_true rfl, Nat.le_of_ble_eq_true rfl⟩) hS (fun E ce q9 H locs hE hS hce hv hcl => ?_) (fun H locs hok hS => ?_)
  ·
    obtain ⟨rfl, hno⟩ := hE
    refine vx_catch (own := RL) (name := E_I) hown [] ⟨0, 5, 6, 26⟩ [] hT (fun z hz => absurd hz List.not_mem_nil) rfl (by decide) (hts (.classLink RL 26 E_I) (by decide +kernel)) (va_Nw.use rfl hC.2.2.2.2.1) hce hv hcl ?_
    refine lv_astore_n (lv' := [(2, .ref q9), (0, .ref (ad 0)), (1, .int x)]) hx hb dL_strength_6 rfl hl (by decide) rfl (fun ls hl => ?_)
    refine lv_ldc (own := RL) hx hb hown k28 dL_strength_7 ?_
    exact l_rret hx hb hr hlk dL_strength_9 ((oV_f hno).symm) hS (Nat.le_of_ble_eq_true rfl) (Nat.le_of_ble_eq_true rfl)
  ·
    exact l_rret hx hb hr hlk dL_strength_5 ((oV_t hok).symm) hS (Nat.le_of_ble_eq_true rfl) (Nat.le_of_ble_eq_true rfl)
set_option maxRecDepth 100000 in
theorem h_angle (l : Launch) (hfl : l.flags = flags0) (D : sD) (B : Nat) (ad : Nat → Nat) (κ : sQ) (sz : Nat) (x : Int32) (n : Nat) (hn9 : κ 0 0 = nI n) (hn60 : n ≤ 60) : vx_Met l yL_angle wsL_angle ({ frames := 8, cells := 1, slots := 6, locals := 124 } : Room) (sPz D B (CW D ad κ) sz ([.ref (ad 0), .int x] : List Value)) (va_Qi (S := Unit) (fun rr _ => rr = oV ((0 ≤ x ∧ x ≤ (κ 0 0 - 1))) (κ 12 (iN x)) (-2000000001)) (fun _ _ => True) (rA 0 ad sz)) (fun _ _ _ => False) 1 6 (rA 0 ad sz) := by
  refine s_headH (cc := cL_angle) (maxL := 3) (ret := some .int) (hh := [(0, 5, 6, 26)]) (by decide +kernel) rfl (Nat.le_of_ble_eq_true rfl) ?_
  intro p e s m below meth c hx hb hr hlk hml hown hT hts hB ls hl
  obtain ⟨hsz, hJ⟩ := hB
  subst hsz
  have hown : s.vm.findClass RL = some m.cls := hown
  have hl : lv_has ls 3 [(0, .ref (ad 0)), (1, .int x)] := hl
  have hS := rS.start (n := 0) (ad := ad) hJ
  have hC := hJ.2.2.2.1.2.2.2
  have k28 : (Cond.constant RL 28 (-2000000001)).before ([.ref (ad 0), .int x] : List Value).toArray s = true := hts _ (by decide +kernel)
  refine lv_aload_n hx hb dL_angle_0 rfl (lv_at hl 0 rfl) ?_
  refine lv_iload_n hx hb dL_angle_1 rfl (lv_at hl 1 rfl) ?_
  refine l_hp (vx_runV (As := [.int x]) (rest := []) ⟨hx, hb, hml, hown, hts⟩ (c_X3_angle l hfl D B ad κ x n hn9 hn60) (cwV 1 hts gL_angle_X3_angle rfl rfl rfl hdW_X3_angle ⟨Nat.le_of_ble_eq_true rfl, Nat.le_of_ble_eq_true rfl⟩) (sPV hJ (ci := 3) (q0 := 0) rfl rfl) rfl rfl hl.1 rfl (lv_room (Nat.le_of_ble_eq_true rfl)) dL_angle_2 ⟨Nat.le_of_ble_eq_true rfl, Nat.le_of_ble_eq_true rfl⟩) hS (fun E ce q9 H locs hE hS hce hv hcl => ?_) (fun H locs hok hS => ?_)
  ·
    obtain ⟨rfl, hno⟩ := hE
    refine vx_catch (own := RL) (name := E_I) hown [] ⟨0, 5, 6, 26⟩ [] hT (fun z hz => absurd hz List.not_mem_nil) rfl (by decide) (hts (.classLink RL 26 E_I) (by decide +kernel)) (va_Nw.use rfl hC.2.2.2.2.1) hce hv hcl ?_
    refine lv_astore_n (lv' := [(2, .ref q9), (0, .ref (ad 0)), (1, .int x)]) hx hb dL_angle_6 rfl hl (by decide) rfl (fun ls hl => ?_)
    refine lv_ldc (own := RL) hx hb hown k28 dL_angle_7 ?_
    exact l_rret hx hb hr hlk dL_angle_9 ((oV_f hno).symm) hS (Nat.le_of_ble_eq_true rfl) (Nat.le_of_ble_eq_true rfl)
  ·
    exact l_rret hx hb hr hlk dL_angle_5 ((oV_t hok).symm) hS (Nat.le_of_ble_eq_true rfl) (Nat.le_of_ble_eq_true rfl)
set_option maxRecDepth 100000 in
theorem h_from (l : Launch) (hfl : l.flags = flags0) (D : sD) (B : Nat) (ad : Nat → Nat) (κ : sQ) (sz : Nat) (x : Int32) (n : Nat) (hn9 : κ 0 0 = nI n) (hn60 : n ≤ 60) : vx_Met l yL_from wsL_from ({ frames := 8, cells := 1, slots := 6, locals := 124 } : Room) (sPz D B (CW D ad κ) sz ([.ref (ad 0), .int x] : List Value)) (va_Qi (S := Unit) (fun rr _ => rr = oV ((0 ≤ x ∧ x ≤ (κ 0 0 - 1))) (t360 ((κ 10 (iN x)) + (κ 12 (iN x)))) (-2000000001)) (fun _ _ => True) (rA 0 ad sz)) (fun _ _ _ => False) 1 6 (rA 0 ad sz) := by
  refine s_headH (cc := cL_from) (maxL := 3) (ret := some .int) (hh := [(0, 5, 6, 26)]) (by decide +kernel) rfl (Nat.le_of_ble_eq_true rfl) ?_
  intro p e s m below meth c hx hb hr hlk hml hown hT hts hB ls hl
  obtain ⟨hsz, hJ⟩ := hB
  subst hsz
  have hown : s.vm.findClass RL = some m.cls := hown
  have hl : lv_has ls 3 [(0, .ref (ad 0)), (1, .int x)] := hl
  have hS := rS.start (n := 0) (ad := ad) hJ
  have hC := hJ.2.2.2.1.2.2.2
  have k28 : (Cond.constant RL 28 (-2000000001)).before ([.ref (ad 0), .int x] : List Value).toArray s = true := hts _ (by decide +kernel)
  refine lv_aload_n hx hb dL_from_0 rfl (lv_at hl 0 rfl) ?_
  refine lv_iload_n hx hb dL_from_1 rfl (lv_at hl 1 rfl) ?_
  refine l_hp (vx_runV (As := [.int x]) (rest := []) ⟨hx, hb, hml, hown, hts⟩ (c_X3_from l hfl D B ad κ x n hn9 hn60) (cwV 1 hts gL_from_X3_from rfl rfl rfl hdW_X3_from ⟨Nat.le_of_ble_eq_true rfl, Nat.le_of_ble_eq_true rfl⟩) (sPV hJ (ci := 3) (q0 := 0) rfl rfl) rfl rfl hl.1 rfl (lv_room (Nat.le_of_ble_eq_true rfl)) dL_from_2 ⟨Nat.le_of_ble_eq_true rfl, Nat.le_of_ble_eq_true rfl⟩) hS (fun E ce q9 H locs hE hS hce hv hcl => ?_) (fun H locs hok hS => ?_)
  ·
    obtain ⟨rfl, hno⟩ := hE
    refine vx_catch (own := RL) (name := E_I) hown [] ⟨0, 5, 6, 26⟩ [] hT (fun z hz => absurd hz List.not_mem_nil) rfl (by decide) (hts (.classLink RL 26 E_I) (by decide +kernel)) (va_Nw.use rfl hC.2.2.2.2.1) hce hv hcl ?_
    refine lv_astore_n (lv' := [(2, .ref q9), (0, .ref (ad 0)), (1, .int x)]) hx hb dL_from_6 rfl hl (by decide) rfl (fun ls hl => ?_)
    refine lv_ldc (own := RL) hx hb hown k28 dL_from_7 ?_
    exact l_rret hx hb hr hlk dL_from_9 ((oV_f hno).symm) hS (Nat.le_of_ble_eq_true rfl) (Nat.le_of_ble_eq_true rfl)
  ·
    exact l_rret hx hb hr hlk dL_from_5 ((oV_t hok).symm) hS (Nat.le_of_ble_eq_true rfl) (Nat.le_of_ble_eq_true rfl)
set_option maxRecDepth 100000 in
theorem h_side (l : Launch) (hfl : l.flags = flags0) (D : sD) (B : Nat) (ad : Nat → Nat) (κ : sQ) (sz : Nat) (x : Int32) (n : Nat) (hn9 : κ 0 0 = nI n) (hn60 : n ≤ 60) : vx_Met l yL_side wsL_side ({ frames := 8, cells := 1, slots := 6, locals := 124 } : Room) (sPz D B (CW D ad κ) sz ([.ref (ad 0), .int x] : List Value)) (va_Qi (S := Unit) (fun rr _ => rr = oV ((0 ≤ x ∧ x ≤ (κ 0 0 - 1))) (sdI (κ 12 (iN x))) (-2000000001)) (fun _ _ => True) (rA 0 ad sz)) (fun _ _ _ => False) 1 6 (rA 0 ad sz) := by
  refine s_headH (cc := cL_side) (maxL := 3) (ret := some .int) (hh := [(0, 5, 6, 26)]) (by decide +kernel) rfl (Nat.le_of_ble_eq_true rfl) ?_
  intro p e s m below meth c hx hb hr hlk hml hown hT hts hB ls hl
  obtain ⟨hsz, hJ⟩ := hB
  subst hsz
  have hown : s.vm.findClass RL = some m.cls := hown
  have hl : lv_has ls 3 [(0, .ref (ad 0)), (1, .int x)] := hl
  have hS := rS.start (n := 0) (ad := ad) hJ
  have hC := hJ.2.2.2.1.2.2.2
  have k28 : (Cond.constant RL 28 (-2000000001)).before ([.ref (ad 0), .int x] : List Value).toArray s = true := hts _ (by decide +kernel)
  refine lv_aload_n hx hb dL_side_0 rfl (lv_at hl 0 rfl) ?_
  refine lv_iload_n hx hb dL_side_1 rfl (lv_at hl 1 rfl) ?_
  refine l_hp (vx_runV (As := [.int x]) (rest := []) ⟨hx, hb, hml, hown, hts⟩ (c_X3_side l hfl D B ad κ x n hn9 hn60) (cwV 1 hts gL_side_X3_side rfl rfl rfl hdW_X3_side ⟨Nat.le_of_ble_eq_true rfl, Nat.le_of_ble_eq_true rfl⟩) (sPV hJ (ci := 3) (q0 := 0) rfl rfl) rfl rfl hl.1 rfl (lv_room (Nat.le_of_ble_eq_true rfl)) dL_side_2 ⟨Nat.le_of_ble_eq_true rfl, Nat.le_of_ble_eq_true rfl⟩) hS (fun E ce q9 H locs hE hS hce hv hcl => ?_) (fun H locs hok hS => ?_)
  ·
    obtain ⟨rfl, hno⟩ := hE
    refine vx_catch (own := RL) (name := E_I) hown [] ⟨0, 5, 6, 26⟩ [] hT (fun z hz => absurd hz List.not_mem_nil) rfl (by decide) (hts (.classLink RL 26 E_I) (by decide +kernel)) (va_Nw.use rfl hC.2.2.2.2.1) hce hv hcl ?_
    refine lv_astore_n (lv' := [(2, .ref q9), (0, .ref (ad 0)), (1, .int x)]) hx hb dL_side_6 rfl hl (by decide) rfl (fun ls hl => ?_)
    refine lv_ldc (own := RL) hx hb hown k28 dL_side_7 ?_
    exact l_rret hx hb hr hlk dL_side_9 ((oV_f hno).symm) hS (Nat.le_of_ble_eq_true rfl) (Nat.le_of_ble_eq_true rfl)
  ·
    exact l_rret hx hb hr hlk dL_side_5 ((oV_t hok).symm) hS (Nat.le_of_ble_eq_true rfl) (Nat.le_of_ble_eq_true rfl)
set_option maxRecDepth 100000 in
theorem h_best (l : Launch) (hfl : l.flags = flags0) (D : sD) (B : Nat) (ad : Nat → Nat) (κ : sQ) (sz : Nat) (x : Int32) (y : Int32) : vx_Met l yL_best wsL_best ({ frames := 9, cells := 1, slots := 6, locals := 145 } : Room) (sPz D B (CW D ad κ) sz ([.ref (ad 0), .int x, .int y] : List Value)) (va_Qi (S := Unit) (fun rr _ => rr = oV (((0 ≤ x ∧ x ≤ 18) ∧ (0 ≤ y ∧ y ≤ 9))) (κ 1 (iN x * 10 + iN y)) (-2000000001)) (fun _ _ => True) (rA 0 ad sz)) (fun _ _ _ => False) 1 6 (rA 0 ad sz) := by
  refine s_headH (cc := cL_best) (maxL := 4) (ret := some .int) (hh := [(0, 6, 7, 26)]) (by decide +kernel) rfl (Nat.le_of_ble_eq_true rfl) ?_
  intro p e s m below meth c hx hb hr hlk hml hown hT hts hB ls hl
  obtain ⟨hsz, hJ⟩ := hB
  subst hsz
  have hown : s.vm.findClass RL = some m.cls := hown
  have hl : lv_has ls 4 [(0, .ref (ad 0)), (1, .int x), (2, .int y)] := hl
  have hS := rS.start (n := 0) (ad := ad) hJ
  have hC := hJ.2.2.2.1.2.2.2
  have k28 : (Cond.constant RL 28 (-2000000001)).before ([.ref (ad 0), .int x, .int y] : List Value).toArray s = true := hts _ (by decide +kernel)
  refine lv_aload_n hx hb dL_best_0 rfl (lv_at hl 0 rfl) ?_
  refine lv_iload_n hx hb dL_best_1 rfl (lv_at hl 1 rfl) ?_
  refine lv_iload_n hx hb dL_best_2 rfl (lv_at hl 2 rfl) ?_
  refine l_hp (vx_runV (As := [.int x, .int y]) (rest := []) ⟨hx, hb, hml, hown, hts⟩ (c_X3_best l hfl D B ad κ x y) (cwV 2 hts gL_best_X3_best rfl rfl rfl hdW_X3_best ⟨Nat.le_of_ble_eq_true rfl, Nat.le_of_ble_eq_true rfl⟩) (sPV hJ (ci := 3) (q0 := 0) rfl rfl) rfl rfl hl.1 rfl (lv_room (Nat.le_of_ble_eq_true rfl)) dL_best_3 ⟨Nat.le_of_ble_eq_true rfl, Nat.le_of_ble_eq_true rfl⟩) hS (fun E ce q9 H locs hE hS hce hv hcl => ?_) (fun H locs hok hS => ?_)
  ·
    obtain ⟨rfl, hno⟩ := hE
    refine vx_catch (own := RL) (name := E_I) hown [] ⟨0, 6, 7, 26⟩ [] hT (fun z hz => absurd hz List.not_mem_nil) rfl (by decide) (hts (.classLink RL 26 E_I) (by decide +kernel)) (va_Nw.use rfl hC.2.2.2.2.1) hce hv hcl ?_
    refine lv_astore_n (lv' := [(3, .ref q9), (0, .ref (ad 0)), (1, .int x), (2, .int y)]) hx hb dL_best_7 rfl hl (by decide) rfl (fun ls hl => ?_)
    refine lv_ldc (own := RL) hx hb hown k28 dL_best_8 ?_
    exact l_rret hx hb hr hlk dL_best_10 ((oV_f hno).symm) hS (Nat.le_of_ble_eq_true rfl) (Nat.le_of_ble_eq_true rfl)
  ·
    exact l_rret hx hb hr hlk dL_best_6 ((oV_t hok).symm) hS (Nat.le_of_ble_eq_true rfl) (Nat.le_of_ble_eq_true rfl)
set_option maxRecDepth 100000 in
theorem h_byLog (l : Launch) (hfl : l.flags = flags0) (D : sD) (B : Nat) (ad : Nat → Nat) (κ : sQ) (sz : Nat) (x : Int32) (y : Int32) (n : Nat) (hn9 : κ 0 0 = nI n) (hn60 : n ≤ 60) : vx_Met l yL_byLog wsL_byLog ({ frames := 9, cells := 1, slots := 6, locals := 148 } : Room) (sPz D B (CW D ad κ) sz ([.ref (ad 0), .int x, .int y] : List Value)) (va_Qi (S := Unit) (fun rr _ => rr = oV (((0 ≤ x ∧ x ≤ 18) ∧ (0 ≤ y ∧ y ≤ 9))) (fmx (κ 9) (κ 11) (κ 12) x y n) (-2000000001)) (fun _ _ => True) (rA 0 ad sz)) (fun _ _ _ => False) 1 6 (rA 0 ad sz) := by
  refine s_headH (cc := cL_byLog) (maxL := 4) (ret := some .int) (hh := [(0, 6, 7, 26)]) (by decide +kernel) rfl (Nat.le_of_ble_eq_true rfl) ?_
  intro p e s m below meth c hx hb hr hlk hml hown hT hts hB ls hl
  obtain ⟨hsz, hJ⟩ := hB
  subst hsz
  have hown : s.vm.findClass RL = some m.cls := hown
  have hl : lv_has ls 4 [(0, .ref (ad 0)), (1, .int x), (2, .int y)] := hl
  have hS := rS.start (n := 0) (ad := ad) hJ
  have hC := hJ.2.2.2.1.2.2.2
  have k28 : (Cond.constant RL 28 (-2000000001)).before ([.ref (ad 0), .int x, .int y] : List Value).toArray s = true := hts _ (by decide +kernel)
  refine lv_aload_n hx hb dL_byLog_0 rfl (lv_at hl 0 rfl) ?_
  refine lv_iload_n hx hb dL_byLog_1 rfl (lv_at hl 1 rfl) ?_
  refine lv_iload_n hx hb dL_byLog_2 rfl (lv_at hl 2 rfl) ?_
  refine l_hp (vx_runV (As := [.int x, .int y]) (rest := []) ⟨hx, hb, hml, hown, hts⟩ (c_X3_bestByLog l hfl D B ad κ x y n hn9 hn60) (cwV 2 hts gL_byLog_X3_bestByLog rfl rfl rfl hdW_X3_bestByLog ⟨Nat.le_of_ble_eq_true rfl, Nat.le_of_ble_eq_true rfl⟩) (sPV hJ (ci := 3) (q0 := 0) rfl rfl) rfl rfl hl.1 rfl (lv_room (Nat.le_of_ble_eq_true rfl)) dL_byLog_3 ⟨Nat.le_of_ble_eq_true rfl, Nat.le_of_ble_eq_true rfl⟩) hS (fun E ce q9 H locs hE hS hce hv hcl => ?_) (fun H locs hok hS => ?_)
  ·
    obtain ⟨rfl, hno⟩ := hE
    refine vx_catch (own := RL) (name := E_I) hown [] ⟨0, 6, 7, 26⟩ [] hT (fun z hz => absurd hz List.not_mem_nil) rfl (by decide) (hts (.classLink RL 26 E_I) (by decide +kernel)) (va_Nw.use rfl hC.2.2.2.2.1) hce hv hcl ?_
    refine lv_astore_n (lv' := [(3, .ref q9), (0, .ref (ad 0)), (1, .int x), (2, .int y)]) hx hb dL_byLog_7 rfl hl (by decide) rfl (fun ls hl => ?_)
    refine lv_ldc (own := RL) hx hb hown k28 dL_byLog_8 ?_
    exact l_rret hx hb hr hlk dL_byLog_10 ((oV_f hno).symm) hS (Nat.le_of_ble_eq_true rfl) (Nat.le_of_ble_eq_true rfl)
  ·
    exact l_rret hx hb hr hlk dL_byLog_6 ((oV_t hok).symm) hS (Nat.le_of_ble_eq_true rfl) (Nat.le_of_ble_eq_true rfl)
set_option maxRecDepth 100000 in
theorem h_up (l : Launch) (hfl : l.flags = flags0) (D : sD) (B : Nat) (ad : Nat → Nat) (κ : sQ) (sz : Nat) (x : Int32) : vx_Met l yL_up wsL_up ({ frames := 8, cells := 1, slots := 6, locals := 123 } : Room) (sPz D B (CW D ad κ) sz ([.ref (ad 0), .int x] : List Value)) (va_Qi (S := Unit) (fun rr _ => rr = oV ((0 ≤ x ∧ x ≤ 9)) ((upB (fun r => 1 * κ 1 (r * 10 + iN x) * cs (midI (nI r))) 0 9).1) (-2000000001)) (fun _ _ => True) (rA 0 ad sz)) (fun _ _ _ => False) 1 6 (rA 0 ad sz) := by
  refine s_headH (cc := cL_up) (maxL := 3) (ret := some .int) (hh := [(0, 5, 6, 26)]) (by decide +kernel) rfl (Nat.le_of_ble_eq_true rfl) ?_
  intro p e s m below meth c hx hb hr hlk hml hown hT hts hB ls hl
  obtain ⟨hsz, hJ⟩ := hB
  subst hsz
  have hown : s.vm.findClass RL = some m.cls := hown
  have hl : lv_has ls 3 [(0, .ref (ad 0)), (1, .int x)] := hl
  have hS := rS.start (n := 0) (ad := ad) hJ
  have hC := hJ.2.2.2.1.2.2.2
  have k28 : (Cond.constant RL 28 (-2000000001)).before ([.ref (ad 0), .int x] : List Value).toArray s = true := hts _ (by decide +kernel)
  refine lv_aload_n hx hb dL_up_0 rfl (lv_at hl 0 rfl) ?_
  refine lv_iload_n hx hb dL_up_1 rfl (lv_at hl 1 rfl) ?_
  refine l_hp (vx_runV (As := [.int x]) (rest := []) ⟨hx, hb, hml, hown, hts⟩ (c_X3_bestUp l hfl D B ad κ x) (cwV 1 hts gL_up_X3_bestUp rfl rfl rfl hdW_X3_bestUp ⟨Nat.le_of_ble_eq_true rfl, Nat.le_of_ble_eq_true rfl⟩) (sPV hJ (ci := 3) (q0 := 0) rfl rfl) rfl rfl hl.1 rfl (lv_room (Nat.le_of_ble_eq_true rfl)) dL_up_2 ⟨Nat.le_of_ble_eq_true rfl, Nat.le_of_ble_eq_true rfl⟩) hS (fun E ce q9 H locs hE hS hce hv hcl => ?_) (fun H locs hok hS => ?_)
  ·
    obtain ⟨rfl, hno⟩ := hE
    refine vx_catch (own := RL) (name := E_I) hown [] ⟨0, 5, 6, 26⟩ [] hT (fun z hz => absurd hz List.not_mem_nil) rfl (by decide) (hts (.classLink RL 26 E_I) (by decide +kernel)) (va_Nw.use rfl hC.2.2.2.2.1) hce hv hcl ?_
    refine lv_astore_n (lv' := [(2, .ref q9), (0, .ref (ad 0)), (1, .int x)]) hx hb dL_up_6 rfl hl (by decide) rfl (fun ls hl => ?_)
    refine lv_ldc (own := RL) hx hb hown k28 dL_up_7 ?_
    exact l_rret hx hb hr hlk dL_up_9 ((oV_f hno).symm) hS (Nat.le_of_ble_eq_true rfl) (Nat.le_of_ble_eq_true rfl)
  ·
    exact l_rret hx hb hr hlk dL_up_5 ((oV_t hok).symm) hS (Nat.le_of_ble_eq_true rfl) (Nat.le_of_ble_eq_true rfl)
set_option maxRecDepth 100000 in
theorem h_down (l : Launch) (hfl : l.flags = flags0) (D : sD) (B : Nat) (ad : Nat → Nat) (κ : sQ) (sz : Nat) (x : Int32) : vx_Met l yL_down wsL_down ({ frames := 8, cells := 1, slots := 6, locals := 123 } : Room) (sPz D B (CW D ad κ) sz ([.ref (ad 0), .int x] : List Value)) (va_Qi (S := Unit) (fun rr _ => rr = oV ((0 ≤ x ∧ x ≤ 9)) ((upB (fun r => (-1) * κ 1 (r * 10 + iN x) * cs (midI (nI r))) 9 10).1) (-2000000001)) (fun _ _ => True) (rA 0 ad sz)) (fun _ _ _ => False) 1 6 (rA 0 ad sz) := by
  refine s_headH (cc := cL_down) (maxL := 3) (ret := some .int) (hh := [(0, 5, 6, 26)]) (by decide +kernel) rfl (Nat.le_of_ble_eq_true rfl) ?_
  intro p e s m below meth c hx hb hr hlk hml hown hT hts hB ls hl
  obtain ⟨hsz, hJ⟩ := hB
  subst hsz
  have hown : s.vm.findClass RL = some m.cls := hown
  have hl : lv_has ls 3 [(0, .ref (ad 0)), (1, .int x)] := hl
  have hS := rS.start (n := 0) (ad := ad) hJ
  have hC := hJ.2.2.2.1.2.2.2
  have k28 : (Cond.constant RL 28 (-2000000001)).before ([.ref (ad 0), .int x] : List Value).toArray s = true := hts _ (by decide +kernel)
  refine lv_aload_n hx hb dL_down_0 rfl (lv_at hl 0 rfl) ?_
  refine lv_iload_n hx hb dL_down_1 rfl (lv_at hl 1 rfl) ?_
  refine l_hp (vx_runV (As := [.int x]) (rest := []) ⟨hx, hb, hml, hown, hts⟩ (c_X3_bestDown l hfl D B ad κ x) (cwV 1 hts gL_down_X3_bestDown rfl rfl rfl hdW_X3_bestDown ⟨Nat.le_of_ble_eq_true rfl, Nat.le_of_ble_eq_true rfl⟩) (sPV hJ (ci := 3) (q0 := 0) rfl rfl) rfl rfl hl.1 rfl (lv_room (Nat.le_of_ble_eq_true rfl)) dL_down_2 ⟨Nat.le_of_ble_eq_true rfl, Nat.le_of_ble_eq_true rfl⟩) hS (fun E ce q9 H locs hE hS hce hv hcl => ?_) (fun H locs hok hS => ?_)
  ·
    obtain ⟨rfl, hno⟩ := hE
    refine vx_catch (own := RL) (name := E_I) hown [] ⟨0, 5, 6, 26⟩ [] hT (fun z hz => absurd hz List.not_mem_nil) rfl (by decide) (hts (.classLink RL 26 E_I) (by decide +kernel)) (va_Nw.use rfl hC.2.2.2.2.1) hce hv hcl ?_
    refine lv_astore_n (lv' := [(2, .ref q9), (0, .ref (ad 0)), (1, .int x)]) hx hb dL_down_6 rfl hl (by decide) rfl (fun ls hl => ?_)
    refine lv_ldc (own := RL) hx hb hown k28 dL_down_7 ?_
    exact l_rret hx hb hr hlk dL_down_9 ((oV_f hno).symm) hS (Nat.le_of_ble_eq_true rfl) (Nat.le_of_ble_eq_true rfl)
  ·
    exact l_rret hx hb hr hlk dL_down_5 ((oV_t hok).symm) hS (Nat.le_of_ble_eq_true rfl) (Nat.le_of_ble_eq_true rfl)
set_option maxRecDepth 100000 in
theorem h_course (l : Launch) (hfl : l.flags = flags0) (D : sD) (B : Nat) (ad : Nat → Nat) (κ : sQ) (sz : Nat) (x : Int32) (f : Int32) (b : Int32) : vx_Met l yL_course wsL_course ({ frames := 8, cells := 3, slots := 18, locals := 130 } : Room) (sPz D B (CW D ad κ) sz ([.ref (ad 0), .int x, .int f, .int b] : List Value)) (va_Qi (S := Unit) (fun rr _ => rr = oL (0 ≤ x ∧ x ≤ 9) ((0 ≤ f ∧ f ≤ 359) ∧ (0 ≤ b ∧ b ≤ 359)) ((upB (fun h => κ 1 (rN (t360 (f + -(nI h))) * 10 + iN x) * cs (nI h - b)) 0 360).1) (-2000000001) (-2000000002)) (fun _ _ => True) (rA 0 ad sz)) (fun _ _ _ => False) 3 18 (rA 0 ad sz) := by
  refine s_headH (cc := cL_course) (maxL := 5) (ret := some .int) (hh := [(0, 7, 8, 26), (0, 7, 13, 13)]) (by decide +kernel) rfl (Nat.le_of_ble_eq_true rfl) ?_
  intro p e s m below meth c hx hb hr hlk hml hown hT hts hB ls hl
  obtain ⟨hsz, hJ⟩ := hB
  subst hsz
  have hown : s.vm.findClass RL = some m.cls := hown
  have hl : lv_has ls 5 [(0, .ref (ad 0)), (1, .int x), (2, .int f), (3, .int b)] := hl
  have hS := rS.start (n := 0) (ad := ad) hJ
  have hC := hJ.2.2.2.1.2.2.2
  have k28 : (Cond.constant RL 28 (-2000000001)).before ([.ref (ad 0), .int x, .int f, .int b] : List Value).toArray s = true := hts _ (by decide +kernel)
  have k15 : (Cond.constant RL 15 (-2000000002)).before ([.ref (ad 0), .int x, .int f, .int b] : List Value).toArray s = true := hts _ (by decide +kernel)
  refine lv_aload_n hx hb dL_course_0 rfl (lv_at hl 0 rfl) ?_
  refine lv_iload_n hx hb dL_course_1 rfl (lv_at hl 1 rfl) ?_
  refine lv_iload_n hx hb dL_course_2 rfl (lv_at hl 2 rfl) ?_
  refine lv_iload_n hx hb dL_course_3 rfl (lv_at hl 3 rfl) ?_
  refine l_hp (vx_runV (As := [.int x, .int f, .int b]) (rest := []) ⟨hx, hb, hml, hown, hts⟩ (c_X3_bestCourse l hfl D B ad κ x f b) (cwV 3 hts gL_course_X3_bestCourse rfl rfl rfl hdW_X3_bestCourse ⟨Nat.le_of_ble_eq_true rfl, Nat.le_of_ble_eq_true rfl⟩) (sPV hJ (ci := 3) (q0 := 0) rfl rfl) rfl rfl hl.1 rfl (lv_room (Nat.le_of_ble_eq_true rfl)) dL_course_4 ⟨Nat.le_of_ble_eq_true rfl, Nat.le_of_ble_eq_true rfl⟩) hS (fun E ce q9 H locs hE hS hce hv hcl => ?_) (fun H locs hok hS => ?_)
  ·
    rcases hE with ⟨rfl, hna⟩ | ⟨rfl, ha, hnb⟩
    ·
      have hno : ¬ (((0 ≤ x ∧ x ≤ 9) ∧ (0 ≤ f ∧ f ≤ 359) ∧ (0 ≤ b ∧ b ≤ 359))) := fun q => hna q.1
      refine vx_catch (own := RL) (name := E_I) hown [] ⟨0, 7, 8, 26⟩ [⟨0, 7, 13, 13⟩] hT (fun z hz => absurd hz List.not_mem_nil) rfl (by decide) (hts (.classLink RL 26 E_I) (by decide +kernel)) (va_Nw.use rfl hC.2.2.2.2.1) hce hv hcl ?_
      refine lv_astore (lv' := [(4, .ref q9), (0, .ref (ad 0)), (1, .int x), (2, .int f), (3, .int b)]) hx hb dL_course_8 hl (by decide) rfl (fun ls hl => ?_)
      refine lv_ldc (own := RL) hx hb hown k28 dL_course_10 ?_
      exact l_rret hx hb hr hlk dL_course_12 ((oL_a hna).symm) hS (Nat.le_of_ble_eq_true rfl) (Nat.le_of_ble_eq_true rfl)
    ·
      have hno : ¬ (((0 ≤ x ∧ x ≤ 9) ∧ (0 ≤ f ∧ f ≤ 359) ∧ (0 ≤ b ∧ b ≤ 359))) := fun q => hnb q.2
      refine vx_catch (own := RL) (name := E_A) hown [⟨0, 7, 8, 26⟩] ⟨0, 7, 13, 13⟩ [] hT (fun z hz => by cases List.mem_singleton.mp hz; exact Or.inr ⟨(by decide), E_I, hts (.classLink RL 26 E_I) (by decide +kernel), hC.2.1⟩) rfl (by decide) (hts (.classLink RL 13 E_A) (by decide +kernel)) (va_Nw.use rfl hC.2.2.1) hce hv hcl ?_
      refine lv_astore (lv' := [(4, .ref q9), (0, .ref (ad 0)), (1, .int x), (2, .int f), (3, .int b)]) hx hb dL_course_13 hl (by decide) rfl (fun ls hl => ?_)
      refine lv_ldc (own := RL) hx hb hown k15 dL_course_15 ?_
      exact l_rret hx hb hr hlk dL_course_17 ((oL_b ha hnb).symm) hS (Nat.le_of_ble_eq_true rfl) (Nat.le_of_ble_eq_true rfl)
  ·
    exact l_rret hx hb hr hlk dL_course_7 ((oL_t hok.1 hok.2).symm) hS (Nat.le_of_ble_eq_true rfl) (Nat.le_of_ble_eq_true rfl)
set_option maxRecDepth 100000 in
theorem h_turn (l : Launch) (hfl : l.flags = flags0) (D : sD) (B : Nat) (ad : Nat → Nat) (κ : sQ) (sz : Nat) (x : Int32) (n : Nat) (hn9 : κ 0 0 = nI n) (hn60 : n ≤ 60) : vx_Met l yL_turn wsL_turn ({ frames := 8, cells := 1, slots := 6, locals := 124 } : Room) (sPz D B (CW D ad κ) sz ([.ref (ad 0), .int x] : List Value)) (va_Qi (S := Unit) (fun rr _ => rr = oV ((0 ≤ x ∧ x ≤ (κ 0 0 - 1))) (kindF (κ 12) (iN x)) (-2000000001)) (fun _ _ => True) (rA 0 ad sz)) (fun _ _ _ => False) 1 6 (rA 0 ad sz) := by
  refine s_headH (cc := cL_turn) (maxL := 3) (ret := some .int) (hh := [(0, 5, 6, 26)]) (by decide +kernel) rfl (Nat.le_of_ble_eq_true rfl) ?_
  intro p e s m below meth c hx hb hr hlk hml hown hT hts hB ls hl
  obtain ⟨hsz, hJ⟩ := hB
  subst hsz
  have hown : s.vm.findClass RL = some m.cls := hown
  have hl : lv_has ls 3 [(0, .ref (ad 0)), (1, .int x)] := hl
  have hS := rS.start (n := 0) (ad := ad) hJ
  have hC := hJ.2.2.2.1.2.2.2
  have k28 : (Cond.constant RL 28 (-2000000001)).before ([.ref (ad 0), .int x] : List Value).toArray s = true := hts _ (by decide +kernel)
  refine lv_aload_n hx hb dL_turn_0 rfl (lv_at hl 0 rfl) ?_
  refine lv_iload_n hx hb dL_turn_1 rfl (lv_at hl 1 rfl) ?_
  refine l_hp (vx_runV (As := [.int x]) (rest := []) ⟨hx, hb, hml, hown, hts⟩ (c_X3_turn l hfl D B ad κ x n hn9 hn60) (cwV 1 hts gL_turn_X3_turn rfl rfl rfl hdW_X3_turn ⟨Nat.le_of_ble_eq_true rfl, Nat.le_of_ble_eq_true rfl⟩) (sPV hJ (ci := 3) (q0 := 0) rfl rfl) rfl rfl hl.1 rfl (lv_room (Nat.le_of_ble_eq_true rfl)) dL_turn_2 ⟨Nat.le_of_ble_eq_true rfl, Nat.le_of_ble_eq_true rfl⟩) hS (fun E ce q9 H locs hE hS hce hv hcl => ?_) (fun H locs hok hS => ?_)
  ·
    obtain ⟨rfl, hno⟩ := hE
    refine vx_catch (own := RL) (name := E_I) hown [] ⟨0, 5, 6, 26⟩ [] hT (fun z hz => absurd hz List.not_mem_nil) rfl (by decide) (hts (.classLink RL 26 E_I) (by decide +kernel)) (va_Nw.use rfl hC.2.2.2.2.1) hce hv hcl ?_
    refine lv_astore_n (lv' := [(2, .ref q9), (0, .ref (ad 0)), (1, .int x)]) hx hb dL_turn_6 rfl hl (by decide) rfl (fun ls hl => ?_)
    refine lv_ldc (own := RL) hx hb hown k28 dL_turn_7 ?_
    exact l_rret hx hb hr hlk dL_turn_9 ((oV_f hno).symm) hS (Nat.le_of_ble_eq_true rfl) (Nat.le_of_ble_eq_true rfl)
  ·
    exact l_rret hx hb hr hlk dL_turn_5 ((oV_t hok).symm) hS (Nat.le_of_ble_eq_true rfl) (Nat.le_of_ble_eq_true rfl)
set_option maxRecDepth 100000 in
theorem h_cost (l : Launch) (hfl : l.flags = flags0) (D : sD) (B : Nat) (ad : Nat → Nat) (κ : sQ) (sz : Nat) (x : Int32) (n : Nat) (hn9 : κ 0 0 = nI n) (hn60 : n ≤ 60) : vx_Met l yL_cost wsL_cost ({ frames := 8, cells := 1, slots := 6, locals := 125 } : Room) (sPz D B (CW D ad κ) sz ([.ref (ad 0), .int x] : List Value)) (va_Qi (S := Unit) (fun rr _ => rr = oV ((0 ≤ x ∧ x ≤ (κ 0 0 - 1))) (lossF (κ 12) (κ 4) (κ 9) n (iN x)) (-2000000001)) (fun _ _ => True) (rA 0 ad sz)) (fun _ _ _ => False) 1 6 (rA 0 ad sz) := by
  refine s_headH (cc := cL_cost) (maxL := 3) (ret := some .int) (hh := [(0, 5, 6, 26)]) (by decide +kernel) rfl (Nat.le_of_ble_eq_true rfl) ?_
  intro p e s m below meth c hx hb hr hlk hml hown hT hts hB ls hl
  obtain ⟨hsz, hJ⟩ := hB
  subst hsz
  have hown : s.vm.findClass RL = some m.cls := hown
  have hl : lv_has ls 3 [(0, .ref (ad 0)), (1, .int x)] := hl
  have hS := rS.start (n := 0) (ad := ad) hJ
  have hC := hJ.2.2.2.1.2.2.2
  have k28 : (Cond.constant RL 28 (-2000000001)).before ([.ref (ad 0), .int x] : List Value).toArray s = true := hts _ (by decide +kernel)
  refine lv_aload_n hx hb dL_cost_0 rfl (lv_at hl 0 rfl) ?_
  refine lv_iload_n hx hb dL_cost_1 rfl (lv_at hl 1 rfl) ?_
  refine l_hp (vx_runV (As := [.int x]) (rest := []) ⟨hx, hb, hml, hown, hts⟩ (c_X3_cost l hfl D B ad κ x n hn9 hn60) (cwV 1 hts gL_cost_X3_cost rfl rfl rfl hdW_X3_cost ⟨Nat.le_of_ble_eq_true rfl, Nat.le_of_ble_eq_true rfl⟩) (sPV hJ (ci := 3) (q0 := 0) rfl rfl) rfl rfl hl.1 rfl (lv_room (Nat.le_of_ble_eq_true rfl)) dL_cost_2 ⟨Nat.le_of_ble_eq_true rfl, Nat.le_of_ble_eq_true rfl⟩) hS (fun E ce q9 H locs hE hS hce hv hcl => ?_) (fun H locs hok hS => ?_)
  ·
    obtain ⟨rfl, hno⟩ := hE
    refine vx_catch (own := RL) (name := E_I) hown [] ⟨0, 5, 6, 26⟩ [] hT (fun z hz => absurd hz List.not_mem_nil) rfl (by decide) (hts (.classLink RL 26 E_I) (by decide +kernel)) (va_Nw.use rfl hC.2.2.2.2.1) hce hv hcl ?_
    refine lv_astore_n (lv' := [(2, .ref q9), (0, .ref (ad 0)), (1, .int x)]) hx hb dL_cost_6 rfl hl (by decide) rfl (fun ls hl => ?_)
    refine lv_ldc (own := RL) hx hb hown k28 dL_cost_7 ?_
    exact l_rret hx hb hr hlk dL_cost_9 ((oV_f hno).symm) hS (Nat.le_of_ble_eq_true rfl) (Nat.le_of_ble_eq_true rfl)
  ·
    exact l_rret hx hb hr hlk dL_cost_5 ((oV_t hok).symm) hS (Nat.le_of_ble_eq_true rfl) (Nat.le_of_ble_eq_true rfl)
set_option maxRecDepth 100000 in
theorem h_costs (l : Launch) (hfl : l.flags = flags0) (D : sD) (B : Nat) (ad : Nat → Nat) (κ : sQ) (sz : Nat) (x : Int32) (n : Nat) (hn9 : κ 0 0 = nI n) (hn60 : n ≤ 60) : vx_Met l yL_costs wsL_costs ({ frames := 8, cells := 1, slots := 6, locals := 127 } : Room) (sPz D B (CW D ad κ) sz ([.ref (ad 0), .int x] : List Value)) (va_Qi (S := Unit) (fun rr _ => rr = oV ((x = 1 ∨ x = 2)) (costF (κ 12) (κ 4) (κ 9) n x n) (-2000000002)) (fun _ _ => True) (rA 0 ad sz)) (fun _ _ _ => False) 1 6 (rA 0 ad sz) := by
  refine s_headH (cc := cL_costs) (maxL := 3) (ret := some .int) (hh := [(0, 5, 6, 13)]) (by decide +kernel) rfl (Nat.le_of_ble_eq_true rfl) ?_
  intro p e s m below meth c hx hb hr hlk hml hown hT hts hB ls hl
  obtain ⟨hsz, hJ⟩ := hB
  subst hsz
  have hown : s.vm.findClass RL = some m.cls := hown
  have hl : lv_has ls 3 [(0, .ref (ad 0)), (1, .int x)] := hl
  have hS := rS.start (n := 0) (ad := ad) hJ
  have hC := hJ.2.2.2.1.2.2.2
  have k15 : (Cond.constant RL 15 (-2000000002)).before ([.ref (ad 0), .int x] : List Value).toArray s = true := hts _ (by decide +kernel)
  refine lv_aload_n hx hb dL_costs_0 rfl (lv_at hl 0 rfl) ?_
  refine lv_iload_n hx hb dL_costs_1 rfl (lv_at hl 1 rfl) ?_
  refine l_hp (vx_runV (As := [.int x]) (rest := []) ⟨hx, hb, hml, hown, hts⟩ (c_X3_costs l hfl D B ad κ x n hn9 hn60) (cwV 1 hts gL_costs_X3_costs rfl rfl rfl hdW_X3_costs ⟨Nat.le_of_ble_eq_true rfl, Nat.le_of_ble_eq_true rfl⟩) (sPV hJ (ci := 3) (q0 := 0) rfl rfl) rfl rfl hl.1 rfl (lv_room (Nat.le_of_ble_eq_true rfl)) dL_costs_2 ⟨Nat.le_of_ble_eq_true rfl, Nat.le_of_ble_eq_true rfl⟩) hS (fun E ce q9 H locs hE hS hce hv hcl => ?_) (fun H locs hok hS => ?_)
  ·
    obtain ⟨rfl, hno⟩ := hE
    refine vx_catch (own := RL) (name := E_A) hown [] ⟨0, 5, 6, 13⟩ [] hT (fun z hz => absurd hz List.not_mem_nil) rfl (by decide) (hts (.classLink RL 13 E_A) (by decide +kernel)) (va_Nw.use rfl hC.2.2.1) hce hv hcl ?_
    refine lv_astore_n (lv' := [(2, .ref q9), (0, .ref (ad 0)), (1, .int x)]) hx hb dL_costs_6 rfl hl (by decide) rfl (fun ls hl => ?_)
    refine lv_ldc (own := RL) hx hb hown k15 dL_costs_7 ?_
    exact l_rret hx hb hr hlk dL_costs_9 ((oV_f hno).symm) hS (Nat.le_of_ble_eq_true rfl) (Nat.le_of_ble_eq_true rfl)
  ·
    exact l_rret hx hb hr hlk dL_costs_5 ((oV_t hok).symm) hS (Nat.le_of_ble_eq_true rfl) (Nat.le_of_ble_eq_true rfl)
set_option maxRecDepth 100000 in
theorem h_east (l : Launch) (hfl : l.flags = flags0) (D : sD) (B : Nat) (ad : Nat → Nat) (κ : sQ) (sz : Nat) (x : Int32) (n : Nat) (hn9 : κ 0 0 = nI n) (hn60 : n ≤ 60) (hmi : ∀ i, i < n → ∃ k, k < 1440 ∧ κ 4 i = nI k) : vx_Met l yL_east wsL_east ({ frames := 8, cells := 1, slots := 6, locals := 124 } : Room) (sPz D B (CW D ad κ) sz ([.ref (ad 0), .int x] : List Value)) (va_Qi (S := Unit) (fun rr _ => rr = oV ((0 ≤ x ∧ x ≤ (κ 0 0 - 1))) ((fd6 (wayS (κ 4) (κ 9) (κ 10) (κ 2) (κ 3) 0 (iN x))).toInt32) (-2000000001)) (fun _ _ => True) (rA 0 ad sz)) (fun _ _ _ => False) 1 6 (rA 0 ad sz) := by
  refine s_headH (cc := cL_east) (maxL := 3) (ret := some .int) (hh := [(0, 5, 6, 26)]) (by decide +kernel) rfl (Nat.le_of_ble_eq_true rfl) ?_
  intro p e s m below meth c hx hb hr hlk hml hown hT hts hB ls hl
  obtain ⟨hsz, hJ⟩ := hB
  subst hsz
  have hown : s.vm.findClass RL = some m.cls := hown
  have hl : lv_has ls 3 [(0, .ref (ad 0)), (1, .int x)] := hl
  have hS := rS.start (n := 0) (ad := ad) hJ
  have hC := hJ.2.2.2.1.2.2.2
  have k28 : (Cond.constant RL 28 (-2000000001)).before ([.ref (ad 0), .int x] : List Value).toArray s = true := hts _ (by decide +kernel)
  refine lv_aload_n hx hb dL_east_0 rfl (lv_at hl 0 rfl) ?_
  refine lv_iload_n hx hb dL_east_1 rfl (lv_at hl 1 rfl) ?_
  refine l_hp (vx_runV (As := [.int x]) (rest := []) ⟨hx, hb, hml, hown, hts⟩ (c_X3_east l hfl D B ad κ x n hn9 hn60 hmi) (cwV 1 hts gL_east_X3_east rfl rfl rfl hdW_X3_east ⟨Nat.le_of_ble_eq_true rfl, Nat.le_of_ble_eq_true rfl⟩) (sPV hJ (ci := 3) (q0 := 0) rfl rfl) rfl rfl hl.1 rfl (lv_room (Nat.le_of_ble_eq_true rfl)) dL_east_2 ⟨Nat.le_of_ble_eq_true rfl, Nat.le_of_ble_eq_true rfl⟩) hS (fun E ce q9 H locs hE hS hce hv hcl => ?_) (fun H locs hok hS => ?_)
  ·
    obtain ⟨rfl, hno⟩ := hE
    refine vx_catch (own := RL) (name := E_I) hown [] ⟨0, 5, 6, 26⟩ [] hT (fun z hz => absurd hz List.not_mem_nil) rfl (by decide) (hts (.classLink RL 26 E_I) (by decide +kernel)) (va_Nw.use rfl hC.2.2.2.2.1) hce hv hcl ?_
    refine lv_astore_n (lv' := [(2, .ref q9), (0, .ref (ad 0)), (1, .int x)]) hx hb dL_east_6 rfl hl (by decide) rfl (fun ls hl => ?_)
    refine lv_ldc (own := RL) hx hb hown k28 dL_east_7 ?_
    exact l_rret hx hb hr hlk dL_east_9 ((oV_f hno).symm) hS (Nat.le_of_ble_eq_true rfl) (Nat.le_of_ble_eq_true rfl)
  ·
    exact l_rret hx hb hr hlk dL_east_5 ((oV_t hok).symm) hS (Nat.le_of_ble_eq_true rfl) (Nat.le_of_ble_eq_true rfl)
set_option maxRecDepth 100000 in
theorem h_north (l : Launch) (hfl : l.flags = flags0) (D : sD) (B : Nat) (ad : Nat → Nat) (κ : sQ) (sz : Nat) (x : Int32) (n : Nat) (hn9 : κ 0 0 = nI n) (hn60 : n ≤ 60) (hmi : ∀ i, i < n → ∃ k, k < 1440 ∧ κ 4 i = nI k) : vx_Met l yL_north wsL_north ({ frames := 8, cells := 1, slots := 6, locals := 124 } : Room) (sPz D B (CW D ad κ) sz ([.ref (ad 0), .int x] : List Value)) (va_Qi (S := Unit) (fun rr _ => rr = oV ((0 ≤ x ∧ x ≤ (κ 0 0 - 1))) ((fd6 (wayS (κ 4) (κ 9) (κ 10) (κ 2) (κ 3) 90 (iN x))).toInt32) (-2000000001)) (fun _ _ => True) (rA 0 ad sz)) (fun _ _ _ => False) 1 6 (rA 0 ad sz) := by
  refine s_headH (cc := cL_north) (maxL := 3) (ret := some .int) (hh := [(0, 5, 6, 26)]) (by decide +kernel) rfl (Nat.le_of_ble_eq_true rfl) ?_
  intro p e s m below meth c hx hb hr hlk hml hown hT hts hB ls hl
  obtain ⟨hsz, hJ⟩ := hB
  subst hsz
  have hown : s.vm.findClass RL = some m.cls := hown
  have hl : lv_has ls 3 [(0, .ref (ad 0)), (1, .int x)] := hl
  have hS := rS.start (n := 0) (ad := ad) hJ
  have hC := hJ.2.2.2.1.2.2.2
  have k28 : (Cond.constant RL 28 (-2000000001)).before ([.ref (ad 0), .int x] : List Value).toArray s = true := hts _ (by decide +kernel)
  refine lv_aload_n hx hb dL_north_0 rfl (lv_at hl 0 rfl) ?_
  refine lv_iload_n hx hb dL_north_1 rfl (lv_at hl 1 rfl) ?_
  refine l_hp (vx_runV (As := [.int x]) (rest := []) ⟨hx, hb, hml, hown, hts⟩ (c_X3_north l hfl D B ad κ x n hn9 hn60 hmi) (cwV 1 hts gL_north_X3_north rfl rfl rfl hdW_X3_north ⟨Nat.le_of_ble_eq_true rfl, Nat.le_of_ble_eq_true rfl⟩) (sPV hJ (ci := 3) (q0 := 0) rfl rfl) rfl rfl hl.1 rfl (lv_room (Nat.le_of_ble_eq_true rfl)) dL_north_2 ⟨Nat.le_of_ble_eq_true rfl, Nat.le_of_ble_eq_true rfl⟩) hS (fun E ce q9 H locs hE hS hce hv hcl => ?_) (fun H locs hok hS => ?_)
  ·
    obtain ⟨rfl, hno⟩ := hE
    refine vx_catch (own := RL) (name := E_I) hown [] ⟨0, 5, 6, 26⟩ [] hT (fun z hz => absurd hz List.not_mem_nil) rfl (by decide) (hts (.classLink RL 26 E_I) (by decide +kernel)) (va_Nw.use rfl hC.2.2.2.2.1) hce hv hcl ?_
    refine lv_astore_n (lv' := [(2, .ref q9), (0, .ref (ad 0)), (1, .int x)]) hx hb dL_north_6 rfl hl (by decide) rfl (fun ls hl => ?_)
    refine lv_ldc (own := RL) hx hb hown k28 dL_north_7 ?_
    exact l_rret hx hb hr hlk dL_north_9 ((oV_f hno).symm) hS (Nat.le_of_ble_eq_true rfl) (Nat.le_of_ble_eq_true rfl)
  ·
    exact l_rret hx hb hr hlk dL_north_5 ((oV_t hok).symm) hS (Nat.le_of_ble_eq_true rfl) (Nat.le_of_ble_eq_true rfl)
end SHelp
