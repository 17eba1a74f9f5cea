/-! ===== the law's helpers ===== -/
section SHelp
theorem hdW_X3_log : yX3_log.cls = RX3 ∧ yX3_log.cls ≠ "java/lang/invoke/MethodHandle" ∧ yX3_log.cls ≠ "java/lang/invoke/VarHandle" ∧ (parseMethodDescriptor yX3_log.desc).map (fun d => d.parameters.length) = some 5 := by decide +kernel
theorem hdW_X3_setFaults : yX3_setFaults.cls = RX3 ∧ yX3_setFaults.cls ≠ "java/lang/invoke/MethodHandle" ∧ yX3_setFaults.cls ≠ "java/lang/invoke/VarHandle" ∧ (parseMethodDescriptor yX3_setFaults.desc).map (fun d => d.parameters.length) = some 3 := by decide +kernel
theorem hdW_X3_setTide : yX3_setTide.cls = RX3 ∧ yX3_setTide.cls ≠ "java/lang/invoke/MethodHandle" ∧ yX3_setTide.cls ≠ "java/lang/invoke/VarHandle" ∧ (parseMethodDescriptor yX3_setTide.desc).map (fun d => d.parameters.length) = some 3 := by decide +kernel
theorem hdW_X3_speed : yX3_speed.cls = RX3 ∧ yX3_speed.cls ≠ "java/lang/invoke/MethodHandle" ∧ yX3_speed.cls ≠ "java/lang/invoke/VarHandle" ∧ (parseMethodDescriptor yX3_speed.desc).map (fun d => d.parameters.length) = some 1 := by decide +kernel
theorem hdW_X3_strength : yX3_strength.cls = RX3 ∧ yX3_strength.cls ≠ "java/lang/invoke/MethodHandle" ∧ yX3_strength.cls ≠ "java/lang/invoke/VarHandle" ∧ (parseMethodDescriptor yX3_strength.desc).map (fun d => d.parameters.length) = some 1 := by decide +kernel
theorem hdW_X3_angle : yX3_angle.cls = RX3 ∧ yX3_angle.cls ≠ "java/lang/invoke/MethodHandle" ∧ yX3_angle.cls ≠ "java/lang/invoke/VarHandle" ∧ (parseMethodDescriptor yX3_angle.desc).map (fun d => d.parameters.length) = some 1 := by decide +kernel
theorem hdW_X3_from : yX3_from.cls = RX3 ∧ yX3_from.cls ≠ "java/lang/invoke/MethodHandle" ∧ yX3_from.cls ≠ "java/lang/invoke/VarHandle" ∧ (parseMethodDescriptor yX3_from.desc).map (fun d => d.parameters.length) = some 1 := by decide +kernel
theorem hdW_X3_side : yX3_side.cls = RX3 ∧ yX3_side.cls ≠ "java/lang/invoke/MethodHandle" ∧ yX3_side.cls ≠ "java/lang/invoke/VarHandle" ∧ (parseMethodDescriptor yX3_side.desc).map (fun d => d.parameters.length) = some 1 := by decide +kernel
theorem hdW_X3_best : yX3_best.cls = RX3 ∧ yX3_best.cls ≠ "java/lang/invoke/MethodHandle" ∧ yX3_best.cls ≠ "java/lang/invoke/VarHandle" ∧ (parseMethodDescriptor yX3_best.desc).map (fun d => d.parameters.length) = some 2 := by decide +kernel
theorem hdW_X3_bestByLog : yX3_bestByLog.cls = RX3 ∧ yX3_bestByLog.cls ≠ "java/lang/invoke/MethodHandle" ∧ yX3_bestByLog.cls ≠ "java/lang/invoke/VarHandle" ∧ (parseMethodDescriptor yX3_bestByLog.desc).map (fun d => d.parameters.length) = some 2 := by decide +kernel
theorem hdW_X3_bestUp : yX3_bestUp.cls = RX3 ∧ yX3_bestUp.cls ≠ "java/lang/invoke/MethodHandle" ∧ yX3_bestUp.cls ≠ "java/lang/invoke/VarHandle" ∧ (parseMethodDescriptor yX3_bestUp.desc).map (fun d => d.parameters.length) = some 1 := by decide +kernel
theorem hdW_X3_bestDown : yX3_bestDown.cls = RX3 ∧ yX3_bestDown.cls ≠ "java/lang/invoke/MethodHandle" ∧ yX3_bestDown.cls ≠ "java/lang/invoke/VarHandle" ∧ (parseMethodDescriptor yX3_bestDown.desc).map (fun d => d.parameters.length) = some 1 := by decide +kernel
theorem hdW_X3_bestCourse : yX3_bestCourse.cls = RX3 ∧ yX3_bestCourse.cls ≠ "java/lang/invoke/MethodHandle" ∧ yX3_bestCourse.cls ≠ "java/lang/invoke/VarHandle" ∧ (parseMethodDescriptor yX3_bestCourse.desc).map (fun d => d.parameters.length) = some 3 := by decide +kernel
theorem hdW_X3_turn : yX3_turn.cls = RX3 ∧ yX3_turn.cls ≠ "java/lang/invoke/MethodHandle" ∧ yX3_turn.cls ≠ "java/lang/invoke/VarHandle" ∧ (parseMethodDescriptor yX3_turn.desc).map (fun d => d.parameters.length) = some 1 := by decide +kernel
theorem hdW_X3_cost : yX3_cost.cls = RX3 ∧ yX3_cost.cls ≠ "java/lang/invoke/MethodHandle" ∧ yX3_cost.cls ≠ "java/lang/invoke/VarHandle" ∧ (parseMethodDescriptor yX3_cost.desc).map (fun d => d.parameters.length) = some 1 := by decide +kernel
theorem hdW_X3_costs : yX3_costs.cls = RX3 ∧ yX3_costs.cls ≠ "java/lang/invoke/MethodHandle" ∧ yX3_costs.cls ≠ "java/lang/invoke/VarHandle" ∧ (parseMethodDescriptor yX3_costs.desc).map (fun d => d.parameters.length) = some 1 := by decide +kernel
theorem hdW_X3_east : yX3_east.cls = RX3 ∧ yX3_east.cls ≠ "java/lang/invoke/MethodHandle" ∧ yX3_east.cls ≠ "java/lang/invoke/VarHandle" ∧ (parseMethodDescriptor yX3_east.desc).map (fun d => d.parameters.length) = some 1 := by decide +kernel
theorem hdW_X3_north : yX3_north.cls = RX3 ∧ yX3_north.cls ≠ "java/lang/invoke/MethodHandle" ∧ yX3_north.cls ≠ "java/lang/invoke/VarHandle" ∧ (parseMethodDescriptor yX3_north.desc).map (fun d => d.parameters.length) = some 1 := by decide +kernel
set_option maxRecDepth 100000 in
theorem h_log (l : Launch) (hfl : l.flags = flags0) (D : sD) (B : Nat) (ad : Nat → Nat) (κ : sQ) (f9 : Nat → Int64) (sz : Nat) (x1 : Int32) (x2 : Int32) (x3 : Int32) (x4 : Int32) (x5 : Int32) (n : Nat) (hn9 : κ 0 0 = nI n) (hn60 : n ≤ 60) (hfa : 500 ≤ κ 0 1 ∧ κ 0 1 ≤ 1500) : vx_Met l yL_log wsL_log ({ frames := 8, cells := 6, slots := 36, locals := 128 } : Room) (sPz D B (OW D ad κ f9) sz ([.ref (ad 0), .int x1, .int x2, .int x3, .int x4, .int x5, .ref (ad 68)] : List Value)) (va_Qi (S := Nat → Int64) (fun rr g => rr = rL ((0 ≤ x1 ∧ x1 ≤ 1439) ∧ (0 ≤ x2 ∧ x2 ≤ 300) ∧ (0 ≤ x3 ∧ x3 ≤ 359) ∧ (0 ≤ x4 ∧ x4 ≤ 600) ∧ (0 ≤ x5 ∧ x5 ≤ 359)) (n < 60 ∧ (n = 0 ∨ κ 4 (n - 1) < x1)) ∧ ((((0 ≤ x1 ∧ x1 ≤ 1439) ∧ (0 ≤ x2 ∧ x2 ≤ 300) ∧ (0 ≤ x3 ∧ x3 ≤ 359) ∧ (0 ≤ x4 ∧ x4 ≤ 600) ∧ (0 ≤ x5 ∧ x5 ≤ 359)) ∧ (n < 60 ∧ (n = 0 ∨ κ 4 (n - 1) < x1))) → g 0 = Int32.toInt64 (nI n))) (fun g t => va_P D.1 vwCl (OW D ad (if (((0 ≤ x1 ∧ x1 ≤ 1439) ∧ (0 ≤ x2 ∧ x2 ≤ 300) ∧ (0 ≤ x3 ∧ x3 ≤ 359) ∧ (0 ≤ x4 ∧ x4 ≤ 600) ∧ (0 ≤ x5 ∧ x5 ≤ 359)) ∧ (n < 60 ∧ (n = 0 ∨ κ 4 (n - 1) < x1))) then (kLog κ n x1 x2 x3 x4 x5) else κ) g) t.heap) (rA 69 ad sz)) (fun _ _ _ => False) 6 36 (rA 69 ad sz) := by
  refine s_headH (cc := cL_log) (maxL := 8) (ret := some .int) (hh := [(0, 16, 19, 13), (0, 16, 23, 15)]) (by decide +kernel) rfl (Nat.le_of_ble_eq_true rfl) ?_
  intro p e s m below meth c hx hb hr hlk hml hown hT hts hB ls hl
  obtain ⟨hsz, hJ⟩ := hB
  subst hsz
  have hown : s.vm.findClass RL = some m.cls := hown
  have hl : lv_has ls 8 [(0, .ref (ad 0)), (1, .int x1), (2, .int x2), (3, .int x3), (4, .int x4), (5, .int x5), (6, .ref (ad 68))] := hl
  have hS := sS.start hJ (OW_adr D ad κ f9)
  have hJ3 : sJ D B (CW D ad κ) s s.heap := sJ.left (b := [(ad 68, .inl (D.2.2.2.1, 1, .inr (.inl f9)))]) hJ
  have hC := hJ.2.2.2.1.2.2.2
  refine lv_aload hx hb dL_log_0 (lv_at hl 6 rfl) ?_
  refine lv_iconst (v := 0) hx hb dL_log_2 (by decide +kernel) ?_
  refine lv_aload_n hx hb dL_log_3 rfl (lv_at hl 0 rfl) ?_
  refine lv_iload_n hx hb dL_log_4 rfl (lv_at hl 1 rfl) ?_
  refine lv_iload_n hx hb dL_log_5 rfl (lv_at hl 2 rfl) ?_
  refine lv_iload_n hx hb dL_log_6 rfl (lv_at hl 3 rfl) ?_
  refine lv_iload hx hb dL_log_7 (lv_at hl 4 rfl) ?_
  refine lv_iload hx hb dL_log_9 (lv_at hl 5 rfl) ?_
  refine s_hm hS (vx_runV (As := [.int x1, .int x2, .int x3, .int x4, .int x5]) (rest := [.int 0, .ref (ad 68)]) ⟨hx, hb, hml, hown, hts⟩ (c_X3_log l hfl D B ad κ s.heap.size x1 x2 x3 x4 x5 n hn9 hn60 hfa) (cwV 5 hts gL_log_X3_log rfl rfl rfl hdW_X3_log ⟨Nat.le_of_ble_eq_true rfl, Nat.le_of_ble_eq_true rfl⟩) (sPVz hJ3 (ci := 3) (q0 := 0) rfl rfl) rfl rfl hl.1 rfl (lv_room (Nat.le_of_ble_eq_true rfl)) dL_log_11 ⟨Nat.le_of_ble_eq_true rfl, Nat.le_of_ble_eq_true rfl⟩) (fun E ce q9 H locs hE hS hce hv hcl => ?_) (fun H locs hok hS => ?_)
  ·
    rcases hE with ⟨rfl, hna⟩ | ⟨rfl, ha, hnb⟩
    ·
      have hno : ¬ ((((0 ≤ x1 ∧ x1 ≤ 1439) ∧ (0 ≤ x2 ∧ x2 ≤ 300) ∧ (0 ≤ x3 ∧ x3 ≤ 359) ∧ (0 ≤ x4 ∧ x4 ≤ 600) ∧ (0 ≤ x5 ∧ x5 ≤ 359)) ∧ (n < 60 ∧ (n = 0 ∨ κ 4 (n - 1) < x1)))) := fun q => hna q.1
      refine vx_catch (own := RL) (name := E_A) hown [] ⟨0, 16, 19, 13⟩ [⟨0, 16, 23, 15⟩] hT (fun z hz => absurd hz List.not_mem_nil) rfl (by decide) (hts (.classLink RL 13 E_A) (by decide +kernel)) (va_Nw.use rfl hC.2.2.1) hce hv hcl ?_
      refine lv_astore (lv' := [(7, .ref q9), (0, .ref (ad 0)), (1, .int x1), (2, .int x2), (3, .int x3), (4, .int x4), (5, .int x5), (6, .ref (ad 68))]) hx hb dL_log_19 hl (by decide) rfl (fun ls hl => ?_)
      refine lv_iconst (v := 1) hx hb dL_log_21 (by decide +kernel) ?_
      exact s_hret hx hb hr hlk dL_log_22 (by rw [rL, if_neg hna]) (fun hok => absurd hok hno) ((if_neg hno).symm) hS (Nat.le_of_ble_eq_true rfl) (Nat.le_of_ble_eq_true rfl)
    ·
      have hno : ¬ ((((0 ≤ x1 ∧ x1 ≤ 1439) ∧ (0 ≤ x2 ∧ x2 ≤ 300) ∧ (0 ≤ x3 ∧ x3 ≤ 359) ∧ (0 ≤ x4 ∧ x4 ≤ 600) ∧ (0 ≤ x5 ∧ x5 ≤ 359)) ∧ (n < 60 ∧ (n = 0 ∨ κ 4 (n - 1) < x1)))) := fun q => hnb q.2
      refine vx_catch (own := RL) (name := E_S) hown [⟨0, 16, 19, 13⟩] ⟨0, 16, 23, 15⟩ [] hT (fun z hz => by cases List.mem_singleton.mp hz; exact Or.inr ⟨(by decide), E_A, hts (.classLink RL 13 E_A) (by decide +kernel), hC.1⟩) rfl (by decide) (hts (.classLink RL 15 E_S) (by decide +kernel)) (va_Nw.use rfl hC.2.2.2.1) hce hv hcl ?_
      refine lv_astore (lv' := [(7, .ref q9), (0, .ref (ad 0)), (1, .int x1), (2, .int x2), (3, .int x3), (4, .int x4), (5, .int x5), (6, .ref (ad 68))]) hx hb dL_log_23 hl (by decide) rfl (fun ls hl => ?_)
      refine lv_iconst (v := 2) hx hb dL_log_25 (by decide +kernel) ?_
      exact s_hret hx hb hr hlk dL_log_26 (by rw [rL, if_pos ha, if_neg hnb]) (fun hok => absurd hok hno) ((if_neg hno).symm) hS (Nat.le_of_ble_eq_true rfl) (Nat.le_of_ble_eq_true rfl)
  ·
    refine lv_i2l hx hb dL_log_14 rfl ?_
    refine s_ho hx hb hS dL_log_15 (fun H locs g hg hS => ?_)
    refine lv_goto (tgt := 27) hx hb dL_log_16 (by decide) ?_
    refine lv_iconst (v := 0) hx hb dL_log_27 (by decide +kernel) ?_
    exact s_hret hx hb hr hlk dL_log_28 (by rw [rL, if_pos hok.1, if_pos hok.2]) (fun _ => hg) ((if_pos hok).symm) hS (Nat.le_of_ble_eq_true rfl) (Nat.le_of_ble_eq_true rfl)
set_option maxRecDepth 100000 in
theorem h_setFaults (l : Launch) (hfl : l.flags = flags0) (D : sD) (B : Nat) (ad : Nat → Nat) (κ : sQ) (f9 : Nat → Int64) (sz : Nat) (f : Int32) (c1 : Int32) (v : Int32) (n : Nat) (hn9 : κ 0 0 = nI n) (hn60 : n ≤ 60) (hok : ∀ i, i < n → (0 ≤ κ 5 i ∧ κ 5 i ≤ 300) ∧ (0 ≤ κ 7 i ∧ κ 7 i ≤ 600)) : vx_Met l yL_setFaults wsL_setFaults ({ frames := 8, cells := 3, slots := 18, locals := 140 } : Room) (sPz D B (OW D ad κ f9) sz ([.ref (ad 0), .int f, .int c1, .int v, .ref (ad 68)] : List Value)) (va_Qi (S := Nat → Int64) (fun rr g => rr = rE (((500 ≤ f ∧ f ≤ 1500) ∧ ((-20) ≤ c1 ∧ c1 ≤ 20) ∧ ((-20) ≤ v ∧ v ≤ 20))) ∧ (((500 ≤ f ∧ f ≤ 1500) ∧ ((-20) ≤ c1 ∧ c1 ≤ 20) ∧ ((-20) ≤ v ∧ v ≤ 20)) → g 0 = Int32.toInt64 (κ 0 1))) (fun g t => va_P D.1 vwCl (OW D ad (if ((500 ≤ f ∧ f ≤ 1500) ∧ ((-20) ≤ c1 ∧ c1 ≤ 20) ∧ ((-20) ≤ v ∧ v ≤ 20)) then (kAll (kF κ f c1 v) n) else κ) g) t.heap) (rA 69 ad sz)) (fun _ _ _ => False) 3 18 (rA 69 ad sz) := by
  refine s_headH (cc := cL_setFaults) (maxL := 6) (ret := some .int) (hh := [(0, 12, 15, 13)]) (by decide +kernel) rfl (Nat.le_of_ble_eq_true rfl) ?_
  intro p e s m below meth c hx hb hr hlk hml hown hT hts hB ls hl
  obtain ⟨hsz, hJ⟩ := hB
  subst hsz
  have hown : s.vm.findClass RL = some m.cls := hown
  have hl : lv_has ls 6 [(0, .ref (ad 0)), (1, .int f), (2, .int c1), (3, .int v), (4, .ref (ad 68))] := hl
  have hS := sS.start hJ (OW_adr D ad κ f9)
  have hJ3 : sJ D B (CW D ad κ) s s.heap := sJ.left (b := [(ad 68, .inl (D.2.2.2.1, 1, .inr (.inl f9)))]) hJ
  have hC := hJ.2.2.2.1.2.2.2
  refine lv_aload hx hb dL_setFaults_0 (lv_at hl 4 rfl) ?_
  refine lv_iconst (v := 0) hx hb dL_setFaults_2 (by decide +kernel) ?_
  refine lv_aload_n hx hb dL_setFaults_3 rfl (lv_at hl 0 rfl) ?_
  refine lv_iload_n hx hb dL_setFaults_4 rfl (lv_at hl 1 rfl) ?_
  refine lv_iload_n hx hb dL_setFaults_5 rfl (lv_at hl 2 rfl) ?_
  refine lv_iload_n hx hb dL_setFaults_6 rfl (lv_at hl 3 rfl) ?_
  refine s_hm hS (vx_runV (As := [.int f, .int c1, .int v]) (rest := [.int 0, .ref (ad 68)]) ⟨hx, hb, hml, hown, hts⟩ (c_X3_setFaults l hfl D B ad κ s.heap.size f c1 v n hn9 hn60 hok) (cwV 3 hts gL_setFaults_X3_setFaults rfl rfl rfl hdW_X3_setFaults ⟨Nat.le_of_ble_eq_true rfl, Nat.le_of_ble_eq_true rfl⟩) (sPVz hJ3 (ci := 3) (q0 := 0) rfl rfl) rfl rfl hl.1 rfl (lv_room (Nat.le_of_ble_eq_true rfl)) dL_setFaults_7 ⟨Nat.le_of_ble_eq_true rfl, Nat.le_of_ble_eq_true rfl⟩) (fun E ce q9 H locs hE hS hce hv hcl => ?_) (fun H locs hok hS => ?_)
  ·
    obtain ⟨rfl, hno⟩ := hE
    refine vx_catch (own := RL) (name := E_A) hown [] ⟨0, 12, 15, 13⟩ [] hT (fun z hz => absurd hz List.not_mem_nil) rfl (by decide) (hts (.classLink RL 13 E_A) (by decide +kernel)) (va_Nw.use rfl hC.2.2.1) hce hv hcl ?_
    refine lv_astore (lv' := [(5, .ref q9), (0, .ref (ad 0)), (1, .int f), (2, .int c1), (3, .int v), (4, .ref (ad 68))]) hx hb dL_setFaults_15 hl (by decide) rfl (fun ls hl => ?_)
    refine lv_iconst (v := 1) hx hb dL_setFaults_17 (by decide +kernel) ?_
    exact s_hret hx hb hr hlk dL_setFaults_18 ((if_neg hno).symm) (fun hok => absurd hok hno) ((if_neg hno).symm) hS (Nat.le_of_ble_eq_true rfl) (Nat.le_of_ble_eq_true rfl)
  ·
    refine lv_i2l hx hb dL_setFaults_10 rfl ?_
    refine s_ho hx hb hS dL_setFaults_11 (fun H locs g hg hS => ?_)
    refine lv_goto (tgt := 19) hx hb dL_setFaults_12 (by decide) ?_
    refine lv_iconst (v := 0) hx hb dL_setFaults_19 (by decide +kernel) ?_
    exact s_hret hx hb hr hlk dL_setFaults_20 ((if_pos hok).symm) (fun _ => hg) ((if_pos hok).symm) hS (Nat.le_of_ble_eq_true rfl) (Nat.le_of_ble_eq_true rfl)
set_option maxRecDepth 100000 in
theorem h_setTide (l : Launch) (hfl : l.flags = flags0) (D : sD) (B : Nat) (ad : Nat → Nat) (κ : sQ) (f9 : Nat → Int64) (sz : Nat) (h : Int32) (d : Int32) (r9 : Int32) : vx_Met l yL_setTide wsL_setTide ({ frames := 8, cells := 3, slots := 18, locals := 126 } : Room) (sPz D B (OW D ad κ f9) sz ([.ref (ad 0), .int h, .int d, .int r9, .ref (ad 68)] : List Value)) (va_Qi (S := Nat → Int64) (fun rr g => rr = rL (0 ≤ h ∧ h ≤ 23) ((0 ≤ d ∧ d ≤ 359) ∧ (0 ≤ r9 ∧ r9 ≤ 100)) ∧ (((0 ≤ h ∧ h ≤ 23) ∧ (0 ≤ d ∧ d ≤ 359) ∧ (0 ≤ r9 ∧ r9 ≤ 100)) → g 0 = Int32.toInt64 (κ 3 (iN h)))) (fun g t => va_P D.1 vwCl (OW D ad (if ((0 ≤ h ∧ h ≤ 23) ∧ (0 ≤ d ∧ d ≤ 359) ∧ (0 ≤ r9 ∧ r9 ≤ 100)) then (kset (kset κ 2 (iN h) d) 3 (iN h) r9) else κ) g) t.heap) (rA 69 ad sz)) (fun _ _ _ => False) 3 18 (rA 69 ad sz) := by
  refine s_headH (cc := cL_setTide) (maxL := 6) (ret := some .int) (hh := [(0, 12, 15, 24), (0, 12, 19, 13)]) (by decide +kernel) rfl (Nat.le_of_ble_eq_true rfl) ?_
  intro p e s m below meth c hx hb hr hlk hml hown hT hts hB ls hl
  obtain ⟨hsz, hJ⟩ := hB
  subst hsz
  have hown : s.vm.findClass RL = some m.cls := hown
  have hl : lv_has ls 6 [(0, .ref (ad 0)), (1, .int h), (2, .int d), (3, .int r9), (4, .ref (ad 68))] := hl
  have hS := sS.start hJ (OW_adr D ad κ f9)
  have hJ3 : sJ D B (CW D ad κ) s s.heap := sJ.left (b := [(ad 68, .inl (D.2.2.2.1, 1, .inr (.inl f9)))]) hJ
  have hC := hJ.2.2.2.1.2.2.2
  refine lv_aload hx hb dL_setTide_0 (lv_at hl 4 rfl) ?_
  refine lv_iconst (v := 0) hx hb dL_setTide_2 (by decide +kernel) ?_
  refine lv_aload_n hx hb dL_setTide_3 rfl (lv_at hl 0 rfl) ?_
  refine lv_iload_n hx hb dL_setTide_4 rfl (lv_at hl 1 rfl) ?_
  refine lv_iload_n hx hb dL_setTide_5 rfl (lv_at hl 2 rfl) ?_
  refine lv_iload_n hx hb dL_setTide_6 rfl (lv_at hl 3 rfl) ?_
  refine s_hm hS (vx_runV (As := [.int h, .int d, .int r9]) (rest := [.int 0, .ref (ad 68)]) ⟨hx, hb, hml, hown, hts⟩ (c_X3_setTide l hfl D B ad κ s.heap.size h d r9) (cwV 3 hts gL_setTide_X3_setTide rfl rfl rfl hdW_X3_setTide ⟨Nat.le_of_ble_eq_true rfl, Nat.le_of_ble_eq_true rfl⟩) (sPVz hJ3 (ci := 3) (q0 := 0) rfl rfl) rfl rfl hl.1 rfl (lv_room (Nat.le_of_ble_eq_true rfl)) dL_setTide_7 ⟨Nat.le_of_ble_eq_true rfl, Nat.le_of_ble_eq_true rfl⟩) (fun E ce q9 H locs hE hS hce hv hcl => ?_) (fun H locs hok hS => ?_)
  ·
    rcases hE with ⟨rfl, hna⟩ | ⟨rfl, ha, hnb⟩
    ·
      have hno : ¬ (((0 ≤ h ∧ h ≤ 23) ∧ (0 ≤ d ∧ d ≤ 359) ∧ (0 ≤ r9 ∧ r9 ≤ 100))) := fun q => hna q.1
      refine vx_catch (own := RL) (name := E_I) hown [] ⟨0, 12, 15, 24⟩ [⟨0, 12, 19, 13⟩] hT (fun z hz => absurd hz List.not_mem_nil) rfl (by decide) (hts (.classLink RL 24 E_I) (by decide +kernel)) (va_Nw.use rfl hC.2.2.2.2.1) hce hv hcl ?_
      refine lv_astore (lv' := [(5, .ref q9), (0, .ref (ad 0)), (1, .int h), (2, .int d), (3, .int r9), (4, .ref (ad 68))]) hx hb dL_setTide_15 hl (by decide) rfl (fun ls hl => ?_)
      refine lv_iconst (v := 1) hx hb dL_setTide_17 (by decide +kernel) ?_
      exact s_hret hx hb hr hlk dL_setTide_18 (by rw [rL, if_neg hna]) (fun hok => absurd hok hno) ((if_neg hno).symm) hS (Nat.le_of_ble_eq_true rfl) (Nat.le_of_ble_eq_true rfl)
    ·
      have hno : ¬ (((0 ≤ h ∧ h ≤ 23) ∧ (0 ≤ d ∧ d ≤ 359) ∧ (0 ≤ r9 ∧ r9 ≤ 100))) := fun q => hnb q.2
      refine vx_catch (own := RL) (name := E_A) hown [⟨0, 12, 15, 24⟩] ⟨0, 12, 19, 13⟩ [] hT (fun z hz => by cases List.mem_singleton.mp hz; exact Or.inr ⟨(by decide), E_I, hts (.classLink RL 24 E_I) (by decide +kernel), hC.2.1⟩) rfl (by decide) (hts (.classLink RL 13 E_A) (by decide +kernel)) (va_Nw.use rfl hC.2.2.1) hce hv hcl ?_
      refine lv_astore (lv' := [(5, .ref q9), (0, .ref (ad 0)), (1, .int h), (2, .int d), (3, .int r9), (4, .ref (ad 68))]) hx hb dL_setTide_19 hl (by decide) rfl (fun ls hl => ?_)
      refine lv_iconst (v := 2) hx hb dL_setTide_21 (by decide +kernel) ?_
      exact s_hret hx hb hr hlk dL_setTide_22 (by rw [rL, if_pos ha, if_neg hnb]) (fun hok => absurd hok hno) ((if_neg hno).symm) hS (Nat.le_of_ble_eq_true rfl) (Nat.le_of_ble_eq_true rfl)
  ·
    refine lv_i2l hx hb dL_setTide_10 rfl ?_
    refine s_ho hx hb hS dL_setTide_11 (fun H locs g hg hS => ?_)
    refine lv_goto (tgt := 23) hx hb dL_setTide_12 (by decide) ?_
    refine lv_iconst (v := 0) hx hb dL_setTide_23 (by decide +kernel) ?_
    exact s_hret hx hb hr hlk dL_setTide_24 (by rw [rL, if_pos hok.1, if_pos hok.2]) (fun _ => hg) ((if_pos hok).symm) hS (Nat.le_of_ble_eq_true rfl) (Nat.le_of_ble_eq_true rfl)
set_option maxRecDepth 100000 in
theorem h_speed (l : Launch) (hfl : l.flags = flags0) (D : sD) (B : Nat) (ad : Nat → Nat) (κ : sQ) (f9 : Nat → Int64) (sz : Nat) (x : Int32) (n : Nat) (hn9 : κ 0 0 = nI n) (hn60 : n ≤ 60) : vx_Met l yL_speed wsL_speed ({ frames := 8, cells := 1, slots := 6, locals := 124 } : Room) (sPz D B (OW D ad κ f9) sz ([.ref (ad 0), .int x, .ref (ad 68)] : List Value)) (va_Qi (S := Nat → Int64) (fun rr g => rr = rE ((0 ≤ x ∧ x ≤ (κ 0 0 - 1))) ∧ ((0 ≤ x ∧ x ≤ (κ 0 0 - 1)) → g 0 = Int32.toInt64 (κ 9 (iN x)))) (fun g t => va_P D.1 vwCl (OW D ad κ g) t.heap) (rA 69 ad sz)) (fun _ _ _ => False) 1 6 (rA 69 ad sz) := by
  refine s_headH (cc := cL_speed) (maxL := 4) (ret := some .int) (hh := [(0, 9, 12, 24)]) (by decide +kernel) rfl (Nat.le_of_ble_eq_true rfl) ?_
  intro p e s m below meth c hx hb hr hlk hml hown hT hts hB ls hl
  obtain ⟨hsz, hJ⟩ := hB
  subst hsz
  have hown : s.vm.findClass RL = some m.cls := hown
  have hl : lv_has ls 4 [(0, .ref (ad 0)), (1, .int x), (2, .ref (ad 68))] := hl
  have hS := sS.start hJ (OW_adr D ad κ f9)
  have hJ3 : sJ D B (CW D ad κ) s s.heap := sJ.left (b := [(ad 68, .inl (D.2.2.2.1, 1, .inr (.inl f9)))]) hJ
  have hC := hJ.2.2.2.1.2.2.2
  refine lv_aload_n hx hb dL_speed_0 rfl (lv_at hl 2 rfl) ?_
  refine lv_iconst (v := 0) hx hb dL_speed_1 (by decide +kernel) ?_
  refine lv_aload_n hx hb dL_speed_2 rfl (lv_at hl 0 rfl) ?_
  refine lv_iload_n hx hb dL_speed_3 rfl (lv_at hl 1 rfl) ?_
  refine s_hm hS (s_hp hJ (vx_runV (As := [.int x]) (rest := [.int 0, .ref (ad 68)]) ⟨hx, hb, hml, hown, hts⟩ (c_X3_speed l hfl D B ad κ x n hn9 hn60) (cwV 1 hts gL_speed_X3_speed rfl rfl rfl hdW_X3_speed ⟨Nat.le_of_ble_eq_true rfl, Nat.le_of_ble_eq_true rfl⟩) (sPV hJ3 (ci := 3) (q0 := 0) rfl rfl) rfl rfl hl.1 rfl (lv_room (Nat.le_of_ble_eq_true rfl)) dL_speed_4 ⟨Nat.le_of_ble_eq_true rfl, Nat.le_of_ble_eq_true rfl⟩)) (fun E ce q9 H locs hE hS hce hv hcl => ?_) (fun H locs hok hS => ?_)
  ·
    obtain ⟨rfl, hno⟩ := hE
    refine vx_catch (own := RL) (name := E_I) hown [] ⟨0, 9, 12, 24⟩ [] hT (fun z hz => absurd hz List.not_mem_nil) rfl (by decide) (hts (.classLink RL 24 E_I) (by decide +kernel)) (va_Nw.use rfl hC.2.2.2.2.1) hce hv hcl ?_
    refine lv_astore_n (lv' := [(3, .ref q9), (0, .ref (ad 0)), (1, .int x), (2, .ref (ad 68))]) hx hb dL_speed_12 rfl hl (by decide) rfl (fun ls hl => ?_)
    refine lv_iconst (v := 1) hx hb dL_speed_13 (by decide +kernel) ?_
    exact s_hret hx hb hr hlk dL_speed_14 ((if_neg hno).symm) (fun hok => absurd hok hno) (rfl) hS (Nat.le_of_ble_eq_true rfl) (Nat.le_of_ble_eq_true rfl)
  ·
    refine lv_i2l hx hb dL_speed_7 rfl ?_
    refine s_ho hx hb hS dL_speed_8 (fun H locs g hg hS => ?_)
    refine lv_goto (tgt := 15) hx hb dL_speed_9 (by decide) ?_
    refine lv_iconst (v := 0) hx hb dL_speed_15 (by decide +kernel) ?_
    exact s_hret hx hb hr hlk dL_speed_16 ((if_pos hok).symm) (fun _ => hg) (rfl) hS (Nat.le_of_ble_eq_true rfl) (Nat.le_of_ble_eq_true rfl)
set_option maxRecDepth 100000 in
theorem h_strength (l : Launch) (hfl : l.flags = flags0) (D : sD) (B : Nat) (ad : Nat → Nat) (κ : sQ) (f9 : Nat → Int64) (sz : Nat) (x : Int32) (n : Nat) (hn9 : κ 0 0 = nI n) (hn60 : n ≤ 60) : vx_Met l yL_strength wsL_strength ({ frames := 8, cells := 1, slots := 6, locals := 124 } : Room) (sPz D B (OW D ad κ f9) sz ([.ref (ad 0), .int x, .ref (ad 68)] : List Value)) (va_Qi (S := Nat → Int64) (fun rr g => rr = rE ((0 ≤ x ∧ x ≤ (κ 0 0 - 1))) ∧ ((0 ≤ x ∧ x ≤ (κ 0 0 - 1)) → g 0 = Int32.toInt64 (κ 11 (iN x)))) (fun g t => va_P D.1 vwCl (OW D ad κ g) t.heap) (rA 69 ad sz)) (fun _ _ _ => False) 1 6 (rA 69 ad sz) := by
  refine s_headH (cc := cL_strength) (maxL := 4) (ret := some .int) (hh := [(0, 9, 12, 24)]) (by decide +kernel) rfl (Nat.le_of_ble_eq_true rfl) ?_
  intro p e s m below meth c hx hb hr hlk hml hown hT hts hB ls hl
  obtain ⟨hsz, hJ⟩ := hB
  subst hsz
  have hown : s.vm.findClass RL = some m.cls := hown
  have hl : lv_has ls 4 [(0, .ref (ad 0)), (1, .int x), (2, .ref (ad 68))] := hl
  have hS := sS.start hJ (OW_adr D ad κ f9)
  have hJ3 : sJ D B (CW D ad κ) s s.heap := sJ.left (b := [(ad 68, .inl (D.2.2.2.1, 1, .inr (.inl f9)))]) hJ
  have hC := hJ.2.2.2.1.2.2.2
  refine lv_aload_n hx hb dL_strength_0 rfl (lv_at hl 2 rfl) ?_
  refine lv_iconst (v := 0) hx hb dL_strength_1 (by decide +kernel) ?_
  refine lv_aload_n hx hb dL_strength_2 rfl (lv_at hl 0 rfl) ?_
  refine lv_iload_n hx hb dL_strength_3 rfl (lv_at hl 1 rfl) ?_
  refine s_hm hS (s_hp hJ (vx_runV (As := [.int x]) (rest := [.int 0, .ref (ad 68)]) ⟨hx, hb, hml, hown, hts⟩ (c_X3_strength l hfl D B ad κ x n hn9 hn60) (cwV 1 hts gL_strength_X3_strength rfl rfl rfl hdW_X3_strength ⟨Nat.le_of_ble_eq_true rfl, Nat.le_of_ble_eq_true rfl⟩) (sPV hJ3 (ci := 3) (q0 := 0) rfl rfl) rfl rfl hl.1 rfl (lv_room (Nat.le_of_ble_eq_true rfl)) dL_strength_4 ⟨Nat.le_of_ble_eq_true rfl, Nat.le_of_ble_eq_true rfl⟩)) (fun E ce q9 H locs hE hS hce hv hcl => ?_) (fun H locs hok hS => ?_)
  ·
    obtain ⟨rfl, hno⟩ := hE
    refine vx_catch (own := RL) (name := E_I) hown [] ⟨0, 9, 12, 24⟩ [] hT (fun z hz => absurd hz List.not_mem_nil) rfl (by decide) (hts (.classLink RL 24 E_I) (by decide +kernel)) (va_Nw.use rfl hC.2.2.2.2.1) hce hv hcl ?_
    refine lv_astore_n (lv' := [(3, .ref q9), (0, .ref (ad 0)), (1, .int x), (2, .ref (ad 68))]) hx hb dL_strength_12 rfl hl (by decide) rfl (fun ls hl => ?_)
    refine lv_iconst (v := 1) hx hb dL_strength_13 (by decide +kernel) ?_
    exact s_hret hx hb hr hlk dL_strength_14 ((if_neg hno).symm) (fun hok => absurd hok hno) (rfl) hS (Nat.le_of_ble_eq_true rfl) (Nat.le_of_ble_eq_true rfl)
  ·
    refine lv_i2l hx hb dL_strength_7 rfl ?_
    refine s_ho hx hb hS dL_strength_8 (fun H locs g hg hS => ?_)
    refine lv_goto (tgt := 15) hx hb dL_strength_9 (by decide) ?_
    refine lv_iconst (v := 0) hx hb dL_strength_15 (by decide +kernel) ?_
    exact s_hret hx hb hr hlk dL_strength_16 ((if_pos hok).symm) (fun _ => hg) (rfl) hS (Nat.le_of_ble_eq_true rfl) (Nat.le_of_ble_eq_true rfl)
set_option maxRecDepth 100000 in
theorem h_angle (l : Launch) (hfl : l.flags = flags0) (D : sD) (B : Nat) (ad : Nat → Nat) (κ : sQ) (f9 : Nat → Int64) (sz : Nat) (x : Int32) (n : Nat) (hn9 : κ 0 0 = nI n) (hn60 : n ≤ 60) : vx_Met l yL_angle wsL_angle ({ frames := 8, cells := 1, slots := 6, locals := 124 } : Room) (sPz D B (OW D ad κ f9) sz ([.ref (ad 0), .int x, .ref (ad 68)] : List Value)) (va_Qi (S := Nat → Int64) (fun rr g => rr = rE ((0 ≤ x ∧ x ≤ (κ 0 0 - 1))) ∧ ((0 ≤ x ∧ x ≤ (κ 0 0 - 1)) → g 0 = Int32.toInt64 (κ 12 (iN x)))) (fun g t => va_P D.1 vwCl (OW D ad κ g) t.heap) (rA 69 ad sz)) (fun _ _ _ => False) 1 6 (rA 69 ad sz) := by
  refine s_headH (cc := cL_angle) (maxL := 4) (ret := some .int) (hh := [(0, 9, 12, 24)]) (by decide +kernel) rfl (Nat.le_of_ble_eq_true rfl) ?_
  intro p e s m below meth c hx hb hr hlk hml hown hT hts hB ls hl
  obtain ⟨hsz, hJ⟩ := hB
  subst hsz
  have hown : s.vm.findClass RL = some m.cls := hown
  have hl : lv_has ls 4 [(0, .ref (ad 0)), (1, .int x), (2, .ref (ad 68))] := hl
  have hS := sS.start hJ (OW_adr D ad κ f9)
  have hJ3 : sJ D B (CW D ad κ) s s.heap := sJ.left (b := [(ad 68, .inl (D.2.2.2.1, 1, .inr (.inl f9)))]) hJ
  have hC := hJ.2.2.2.1.2.2.2
  refine lv_aload_n hx hb dL_angle_0 rfl (lv_at hl 2 rfl) ?_
  refine lv_iconst (v := 0) hx hb dL_angle_1 (by decide +kernel) ?_
  refine lv_aload_n hx hb dL_angle_2 rfl (lv_at hl 0 rfl) ?_
  refine lv_iload_n hx hb dL_angle_3 rfl (lv_at hl 1 rfl) ?_
  refine s_hm hS (s_hp hJ (vx_runV (As := [.int x]) (rest := [.int 0, .ref (ad 68)]) ⟨hx, hb, hml, hown, hts⟩ (c_X3_angle l hfl D B ad κ x n hn9 hn60) (cwV 1 hts gL_angle_X3_angle rfl rfl rfl hdW_X3_angle ⟨Nat.le_of_ble_eq_true rfl, Nat.le_of_ble_eq_true rfl⟩) (sPV hJ3 (ci := 3) (q0 := 0) rfl rfl) rfl rfl hl.1 rfl (lv_room (Nat.le_of_ble_eq_true rfl)) dL_angle_4 ⟨Nat.le_of_ble_eq_true rfl, Nat.le_of_ble_eq_true rfl⟩)) (fun E ce q9 H locs hE hS hce hv hcl => ?_) (fun H locs hok hS => ?_)
  ·
    obtain ⟨rfl, hno⟩ := hE
    refine vx_catch (own := RL) (name := E_I) hown [] ⟨0, 9, 12, 24⟩ [] hT (fun z hz => absurd hz List.not_mem_nil) rfl (by decide) (hts (.classLink RL 24 E_I) (by decide +kernel)) (va_Nw.use rfl hC.2.2.2.2.1) hce hv hcl ?_
    refine lv_astore_n (lv' := [(3, .ref q9), (0, .ref (ad 0)), (1, .int x), (2, .ref (ad 68))]) hx hb dL_angle_12 rfl hl (by decide) rfl (fun ls hl => ?_)
    refine lv_iconst (v := 1) hx hb dL_angle_13 (by decide +kernel) ?_
    exact s_hret hx hb hr hlk dL_angle_14 ((if_neg hno).symm) (fun hok => absurd hok hno) (rfl) hS (Nat.le_of_ble_eq_true rfl) (Nat.le_of_ble_eq_true rfl)
  ·
    refine lv_i2l hx hb dL_angle_7 rfl ?_
    refine s_ho hx hb hS dL_angle_8 (fun H locs g hg hS => ?_)
    refine lv_goto (tgt := 15) hx hb dL_angle_9 (by decide) ?_
    refine lv_iconst (v := 0) hx hb dL_angle_15 (by decide +kernel) ?_
    exact s_hret hx hb hr hlk dL_angle_16 ((if_pos hok).symm) (fun _ => hg) (rfl) hS (Nat.le_of_ble_eq_true rfl) (Nat.le_of_ble_eq_true rfl)
set_option maxRecDepth 100000 in
theorem h_from (l : Launch) (hfl : l.flags = flags0) (D : sD) (B : Nat) (ad : Nat → Nat) (κ : sQ) (f9 : Nat → Int64) (sz : Nat) (x : Int32) (n : Nat) (hn9 : κ 0 0 = nI n) (hn60 : n ≤ 60) : vx_Met l yL_from wsL_from ({ frames := 8, cells := 1, slots := 6, locals := 124 } : Room) (sPz D B (OW D ad κ f9) sz ([.ref (ad 0), .int x, .ref (ad 68)] : List Value)) (va_Qi (S := Nat → Int64) (fun rr g => rr = rE ((0 ≤ x ∧ x ≤ (κ 0 0 - 1))) ∧ ((0 ≤ x ∧ x ≤ (κ 0 0 - 1)) → g 0 = Int32.toInt64 (t360 ((κ 10 (iN x)) + (κ 12 (iN x)))))) (fun g t => va_P D.1 vwCl (OW D ad κ g) t.heap) (rA 69 ad sz)) (fun _ _ _ => False) 1 6 (rA 69 ad sz) := by
  refine s_headH (cc := cL_from) (maxL := 4) (ret := some .int) (hh := [(0, 9, 12, 24)]) (by decide +kernel) rfl (Nat.le_of_ble_eq_true rfl) ?_
  intro p e s m below meth c hx hb hr hlk hml hown hT hts hB ls hl
  obtain ⟨hsz, hJ⟩ := hB
  subst hsz
  have hown : s.vm.findClass RL = some m.cls := hown
  have hl : lv_has ls 4 [(0, .ref (ad 0)), (1, .int x), (2, .ref (ad 68))] := hl
  have hS := sS.start hJ (OW_adr D ad κ f9)
  have hJ3 : sJ D B (CW D ad κ) s s.heap := sJ.left (b := [(ad 68, .inl (D.2.2.2.1, 1, .inr (.inl f9)))]) hJ
  have hC := hJ.2.2.2.1.2.2.2
  refine lv_aload_n hx hb dL_from_0 rfl (lv_at hl 2 rfl) ?_
  refine lv_iconst (v := 0) hx hb dL_from_1 (by decide +kernel) ?_
  refine lv_aload_n hx hb dL_from_2 rfl (lv_at hl 0 rfl) ?_
  refine lv_iload_n hx hb dL_from_3 rfl (lv_at hl 1 rfl) ?_
  refine s_hm hS (s_hp hJ (vx_runV (As := [.int x]) (rest := [.int 0, .ref (ad 68)]) ⟨hx, hb, hml, hown, hts⟩ (c_X3_from l hfl D B ad κ x n hn9 hn60) (cwV 1 hts gL_from_X3_from rfl rfl rfl hdW_X3_from ⟨Nat.le_of_ble_eq_true rfl, Nat.le_of_ble_eq_true rfl⟩) (sPV hJ3 (ci := 3) (q0 := 0) rfl rfl) rfl rfl hl.1 rfl (lv_room (Nat.le_of_ble_eq_true rfl)) dL_from_4 ⟨Nat.le_of_ble_eq_true rfl, Nat.le_of_ble_eq_true rfl⟩)) (fun E ce q9 H locs hE hS hce hv hcl => ?_) (fun H locs hok hS => ?_)
  ·
    obtain ⟨rfl, hno⟩ := hE
    refine vx_catch (own := RL) (name := E_I) hown [] ⟨0, 9, 12, 24⟩ [] hT (fun z hz => absurd hz List.not_mem_nil) rfl (by decide) (hts (.classLink RL 24 E_I) (by decide +kernel)) (va_Nw.use rfl hC.2.2.2.2.1) hce hv hcl ?_
    refine lv_astore_n (lv' := [(3, .ref q9), (0, .ref (ad 0)), (1, .int x), (2, .ref (ad 68))]) hx hb dL_from_12 rfl hl (by decide) rfl (fun ls hl => ?_)
    refine lv_iconst (v := 1) hx hb dL_from_13 (by decide +kernel) ?_
    exact s_hret hx hb hr hlk dL_from_14 ((if_neg hno).symm) (fun hok => absurd hok hno) (rfl) hS (Nat.le_of_ble_eq_true rfl) (Nat.le_of_ble_eq_true rfl)
  ·
    refine lv_i2l hx hb dL_from_7 rfl ?_
    refine s_ho hx hb hS dL_from_8 (fun H locs g hg hS => ?_)
    refine lv_goto (tgt := 15) hx hb dL_from_9 (by decide) ?_
    refine lv_iconst (v := 0) hx hb dL_from_15 (by decide +kernel) ?_
    exact s_hret hx hb hr hlk dL_from_16 ((if_pos hok).symm) (fun _ => hg) (rfl) hS (Nat.le_of_ble_eq_true rfl) (Nat.le_of_ble_eq_true rfl)
set_option maxRecDepth 100000 in
theorem h_side (l : Launch) (hfl : l.flags = flags0) (D : sD) (B : Nat) (ad : Nat → Nat) (κ : sQ) (f9 : Nat → Int64) (sz : Nat) (x : Int32) (n : Nat) (hn9 : κ 0 0 = nI n) (hn60 : n ≤ 60) : vx_Met l yL_side wsL_side ({ frames := 8, cells := 1, slots := 6, locals := 124 } : Room) (sPz D B (OW D ad κ f9) sz ([.ref (ad 0), .int x, .ref (ad 68)] : List Value)) (va_Qi (S := Nat → Int64) (fun rr g => rr = rE ((0 ≤ x ∧ x ≤ (κ 0 0 - 1))) ∧ ((0 ≤ x ∧ x ≤ (κ 0 0 - 1)) → g 0 = Int32.toInt64 (sdI (κ 12 (iN x))))) (fun g t => va_P D.1 vwCl (OW D ad κ g) t.heap) (rA 69 ad sz)) (fun _ _ _ => False) 1 6 (rA 69 ad sz) := by
  refine s_headH (cc := cL_side) (maxL := 4) (ret := some .int) (hh := [(0, 9, 12, 24)]) (by decide +kernel) rfl (Nat.le_of_ble_eq_true rfl) ?_
  intro p e s m below meth c hx hb hr hlk hml hown hT hts hB ls hl
  obtain ⟨hsz, hJ⟩ := hB
  subst hsz
  have hown : s.vm.findClass RL = some m.cls := hown
  have hl : lv_has ls 4 [(0, .ref (ad 0)), (1, .int x), (2, .ref (ad 68))] := hl
  have hS := sS.start hJ (OW_adr D ad κ f9)
  have hJ3 : sJ D B (CW D ad κ) s s.heap := sJ.left (b := [(ad 68, .inl (D.2.2.2.1, 1, .inr (.inl f9)))]) hJ
  have hC := hJ.2.2.2.1.2.2.2
  refine lv_aload_n hx hb dL_side_0 rfl (lv_at hl 2 rfl) ?_
  refine lv_iconst (v := 0) hx hb dL_side_1 (by decide +kernel) ?_
  refine lv_aload_n hx hb dL_side_2 rfl (lv_at hl 0 rfl) ?_
  refine lv_iload_n hx hb dL_side_3 rfl (lv_at hl 1 rfl) ?_
  refine s_hm hS (s_hp hJ (vx_runV (As := [.int x]) (rest := [.int 0, .ref (ad 68)]) ⟨hx, hb, hml, hown, hts⟩ (c_X3_side l hfl D B ad κ x n hn9 hn60) (cwV 1 hts gL_side_X3_side rfl rfl rfl hdW_X3_side ⟨Nat.le_of_ble_eq_true rfl, Nat.le_of_ble_eq_true rfl⟩) (sPV hJ3 (ci := 3) (q0 := 0) rfl rfl) rfl rfl hl.1 rfl (lv_room (Nat.le_of_ble_eq_true rfl)) dL_side_4 ⟨Nat.le_of_ble_eq_true rfl, Nat.le_of_ble_eq_true rfl⟩)) (fun E ce q9 H locs hE hS hce hv hcl => ?_) (fun H locs hok hS => ?_)
  ·
    obtain ⟨rfl, hno⟩ := hE
    refine vx_catch (own := RL) (name := E_I) hown [] ⟨0, 9, 12, 24⟩ [] hT (fun z hz => absurd hz List.not_mem_nil) rfl (by decide) (hts (.classLink RL 24 E_I) (by decide +kernel)) (va_Nw.use rfl hC.2.2.2.2.1) hce hv hcl ?_
    refine lv_astore_n (lv' := [(3, .ref q9), (0, .ref (ad 0)), (1, .int x), (2, .ref (ad 68))]) hx hb dL_side_12 rfl hl (by decide) rfl (fun ls hl => ?_)
    refine lv_iconst (v := 1) hx hb dL_side_13 (by decide +kernel) ?_
    exact s_hret hx hb hr hlk dL_side_14 ((if_neg hno).symm) (fun hok => absurd hok hno) (rfl) hS (Nat.le_of_ble_eq_true rfl) (Nat.le_of_ble_eq_true rfl)
  ·
    refine lv_i2l hx hb dL_side_7 rfl ?_
    refine s_ho hx hb hS dL_side_8 (fun H locs g hg hS => ?_)
    refine lv_goto (tgt := 15) hx hb dL_side_9 (by decide) ?_
    refine lv_iconst (v := 0) hx hb dL_side_15 (by decide +kernel) ?_
    exact s_hret hx hb hr hlk dL_side_16 ((if_pos hok).symm) (fun _ => hg) (rfl) hS (Nat.le_of_ble_eq_true rfl) (Nat.le_of_ble_eq_true rfl)
set_option maxRecDepth 100000 in
theorem h_best (l : Launch) (hfl : l.flags = flags0) (D : sD) (B : Nat) (ad : Nat → Nat) (κ : sQ) (f9 : Nat → Int64) (sz : Nat) (x : Int32) (y : Int32) : vx_Met l yL_best wsL_best ({ frames := 9, cells := 1, slots := 6, locals := 145 } : Room) (sPz D B (OW D ad κ f9) sz ([.ref (ad 0), .int x, .int y, .ref (ad 68)] : List Value)) (va_Qi (S := Nat → Int64) (fun rr g => rr = rE (((0 ≤ x ∧ x ≤ 18) ∧ (0 ≤ y ∧ y ≤ 9))) ∧ (((0 ≤ x ∧ x ≤ 18) ∧ (0 ≤ y ∧ y ≤ 9)) → g 0 = Int32.toInt64 (κ 1 (iN x * 10 + iN y)))) (fun g t => va_P D.1 vwCl (OW D ad κ g) t.heap) (rA 69 ad sz)) (fun _ _ _ => False) 1 6 (rA 69 ad sz) := by
  refine s_headH (cc := cL_best) (maxL := 5) (ret := some .int) (hh := [(0, 10, 13, 24)]) (by decide +kernel) rfl (Nat.le_of_ble_eq_true rfl) ?_
  intro p e s m below meth c hx hb hr hlk hml hown hT hts hB ls hl
  obtain ⟨hsz, hJ⟩ := hB
  subst hsz
  have hown : s.vm.findClass RL = some m.cls := hown
  have hl : lv_has ls 5 [(0, .ref (ad 0)), (1, .int x), (2, .int y), (3, .ref (ad 68))] := hl
  have hS := sS.start hJ (OW_adr D ad κ f9)
  have hJ3 : sJ D B (CW D ad κ) s s.heap := sJ.left (b := [(ad 68, .inl (D.2.2.2.1, 1, .inr (.inl f9)))]) hJ
  have hC := hJ.2.2.2.1.2.2.2
  refine lv_aload_n hx hb dL_best_0 rfl (lv_at hl 3 rfl) ?_
  refine lv_iconst (v := 0) hx hb dL_best_1 (by decide +kernel) ?_
  refine lv_aload_n hx hb dL_best_2 rfl (lv_at hl 0 rfl) ?_
  refine lv_iload_n hx hb dL_best_3 rfl (lv_at hl 1 rfl) ?_
  refine lv_iload_n hx hb dL_best_4 rfl (lv_at hl 2 rfl) ?_
  refine s_hm hS (s_hp hJ (vx_runV (As := [.int x, .int y]) (rest := [.int 0, .ref (ad 68)]) ⟨hx, hb, hml, hown, hts⟩ (c_X3_best l hfl D B ad κ x y) (cwV 2 hts gL_best_X3_best rfl rfl rfl hdW_X3_best ⟨Nat.le_of_ble_eq_true rfl, Nat.le_of_ble_eq_true rfl⟩) (sPV hJ3 (ci := 3) (q0 := 0) rfl rfl) rfl rfl hl.1 rfl (lv_room (Nat.le_of_ble_eq_true rfl)) dL_best_5 ⟨Nat.le_of_ble_eq_true rfl, Nat.le_of_ble_eq_true rfl⟩)) (fun E ce q9 H locs hE hS hce hv hcl => ?_) (fun H locs hok hS => ?_)
  ·
    obtain ⟨rfl, hno⟩ := hE
    refine vx_catch (own := RL) (name := E_I) hown [] ⟨0, 10, 13, 24⟩ [] hT (fun z hz => absurd hz List.not_mem_nil) rfl (by decide) (hts (.classLink RL 24 E_I) (by decide +kernel)) (va_Nw.use rfl hC.2.2.2.2.1) hce hv hcl ?_
    refine lv_astore (lv' := [(4, .ref q9), (0, .ref (ad 0)), (1, .int x), (2, .int y), (3, .ref (ad 68))]) hx hb dL_best_13 hl (by decide) rfl (fun ls hl => ?_)
    refine lv_iconst (v := 1) hx hb dL_best_15 (by decide +kernel) ?_
    exact s_hret hx hb hr hlk dL_best_16 ((if_neg hno).symm) (fun hok => absurd hok hno) (rfl) hS (Nat.le_of_ble_eq_true rfl) (Nat.le_of_ble_eq_true rfl)
  ·
    refine lv_i2l hx hb dL_best_8 rfl ?_
    refine s_ho hx hb hS dL_best_9 (fun H locs g hg hS => ?_)
    refine lv_goto (tgt := 17) hx hb dL_best_10 (by decide) ?_
    refine lv_iconst (v := 0) hx hb dL_best_17 (by decide +kernel) ?_
    exact s_hret hx hb hr hlk dL_best_18 ((if_pos hok).symm) (fun _ => hg) (rfl) hS (Nat.le_of_ble_eq_true rfl) (Nat.le_of_ble_eq_true rfl)
set_option maxRecDepth 100000 in
theorem h_bestByLog (l : Launch) (hfl : l.flags = flags0) (D : sD) (B : Nat) (ad : Nat → Nat) (κ : sQ) (f9 : Nat → Int64) (sz : Nat) (x : Int32) (y : Int32) (n : Nat) (hn9 : κ 0 0 = nI n) (hn60 : n ≤ 60) : vx_Met l yL_bestByLog wsL_bestByLog ({ frames := 9, cells := 1, slots := 6, locals := 148 } : Room) (sPz D B (OW D ad κ f9) sz ([.ref (ad 0), .int x, .int y, .ref (ad 68)] : List Value)) (va_Qi (S := Nat → Int64) (fun rr g => rr = rE (((0 ≤ x ∧ x ≤ 18) ∧ (0 ≤ y ∧ y ≤ 9))) ∧ (((0 ≤ x ∧ x ≤ 18) ∧ (0 ≤ y ∧ y ≤ 9)) → g 0 = Int32.toInt64 (fmx (κ 9) (κ 11) (κ 12) x y n))) (fun g t => va_P D.1 vwCl (OW D ad κ g) t.heap) (rA 69 ad sz)) (fun _ _ _ => False) 1 6 (rA 69 ad sz) := by
  refine s_headH (cc := cL_bestByLog) (maxL := 5) (ret := some .int) (hh := [(0, 10, 13, 24)]) (by decide +kernel) rfl (Nat.le_of_ble_eq_true rfl) ?_
  intro p e s m below meth c hx hb hr hlk hml hown hT hts hB ls hl
  obtain ⟨hsz, hJ⟩ := hB
  subst hsz
  have hown : s.vm.findClass RL = some m.cls := hown
  have hl : lv_has ls 5 [(0, .ref (ad 0)), (1, .int x), (2, .int y), (3, .ref (ad 68))] := hl
  have hS := sS.start hJ (OW_adr D ad κ f9)
  have hJ3 : sJ D B (CW D ad κ) s s.heap := sJ.left (b := [(ad 68, .inl (D.2.2.2.1, 1, .inr (.inl f9)))]) hJ
  have hC := hJ.2.2.2.1.2.2.2
  refine lv_aload_n hx hb dL_bestByLog_0 rfl (lv_at hl 3 rfl) ?_
  refine lv_iconst (v := 0) hx hb dL_bestByLog_1 (by decide +kernel) ?_
  refine lv_aload_n hx hb dL_bestByLog_2 rfl (lv_at hl 0 rfl) ?_
  refine lv_iload_n hx hb dL_bestByLog_3 rfl (lv_at hl 1 rfl) ?_
  refine lv_iload_n hx hb dL_bestByLog_4 rfl (lv_at hl 2 rfl) ?_
  refine s_hm hS (s_hp hJ (vx_runV (As := [.int x, .int y]) (rest := [.int 0, .ref (ad 68)]) ⟨hx, hb, hml, hown, hts⟩ (c_X3_bestByLog l hfl D B ad κ x y n hn9 hn60) (cwV 2 hts gL_bestByLog_X3_bestByLog rfl rfl rfl hdW_X3_bestByLog ⟨Nat.le_of_ble_eq_true rfl, Nat.le_of_ble_eq_true rfl⟩) (sPV hJ3 (ci := 3) (q0 := 0) rfl rfl) rfl rfl hl.1 rfl (lv_room (Nat.le_of_ble_eq_true rfl)) dL_bestByLog_5 ⟨Nat.le_of_ble_eq_true rfl, Nat.le_of_ble_eq_true rfl⟩)) (fun E ce q9 H locs hE hS hce hv hcl => ?_) (fun H locs hok hS => ?_)
  ·
    obtain ⟨rfl, hno⟩ := hE
    refine vx_catch (own := RL) (name := E_I) hown [] ⟨0, 10, 13, 24⟩ [] hT (fun z hz => absurd hz List.not_mem_nil) rfl (by decide) (hts (.classLink RL 24 E_I) (by decide +kernel)) (va_Nw.use rfl hC.2.2.2.2.1) hce hv hcl ?_
    refine lv_astore (lv' := [(4, .ref q9), (0, .ref (ad 0)), (1, .int x), (2, .int y), (3, .ref (ad 68))]) hx hb dL_bestByLog_13 hl (by decide) rfl (fun ls hl => ?_)
    refine lv_iconst (v := 1) hx hb dL_bestByLog_15 (by decide +kernel) ?_
    exact s_hret hx hb hr hlk dL_bestByLog_16 ((if_neg hno).symm) (fun hok => absurd hok hno) (rfl) hS (Nat.le_of_ble_eq_true rfl) (Nat.le_of_ble_eq_true rfl)
  ·
    refine lv_i2l hx hb dL_bestByLog_8 rfl ?_
    refine s_ho hx hb hS dL_bestByLog_9 (fun H locs g hg hS => ?_)
    refine lv_goto (tgt := 17) hx hb dL_bestByLog_10 (by decide) ?_
    refine lv_iconst (v := 0) hx hb dL_bestByLog_17 (by decide +kernel) ?_
    exact s_hret hx hb hr hlk dL_bestByLog_18 ((if_pos hok).symm) (fun _ => hg) (rfl) hS (Nat.le_of_ble_eq_true rfl) (Nat.le_of_ble_eq_true rfl)
set_option maxRecDepth 100000 in
theorem h_bestUp (l : Launch) (hfl : l.flags = flags0) (D : sD) (B : Nat) (ad : Nat → Nat) (κ : sQ) (f9 : Nat → Int64) (sz : Nat) (x : Int32) : vx_Met l yL_bestUp wsL_bestUp ({ frames := 8, cells := 1, slots := 6, locals := 123 } : Room) (sPz D B (OW D ad κ f9) sz ([.ref (ad 0), .int x, .ref (ad 68)] : List Value)) (va_Qi (S := Nat → Int64) (fun rr g => rr = rE ((0 ≤ x ∧ x ≤ 9)) ∧ ((0 ≤ x ∧ x ≤ 9) → g 0 = Int32.toInt64 ((upB (fun r => 1 * κ 1 (r * 10 + iN x) * cs (midI (nI r))) 0 9).1))) (fun g t => va_P D.1 vwCl (OW D ad κ g) t.heap) (rA 69 ad sz)) (fun _ _ _ => False) 1 6 (rA 69 ad sz) := by
  refine s_headH (cc := cL_bestUp) (maxL := 4) (ret := some .int) (hh := [(0, 9, 12, 24)]) (by decide +kernel) rfl (Nat.le_of_ble_eq_true rfl) ?_
  intro p e s m below meth c hx hb hr hlk hml hown hT hts hB ls hl
  obtain ⟨hsz, hJ⟩ := hB
  subst hsz
  have hown : s.vm.findClass RL = some m.cls := hown
  have hl : lv_has ls 4 [(0, .ref (ad 0)), (1, .int x), (2, .ref (ad 68))] := hl
  have hS := sS.start hJ (OW_adr D ad κ f9)
  have hJ3 : sJ D B (CW D ad κ) s s.heap := sJ.left (b := [(ad 68, .inl (D.2.2.2.1, 1, .inr (.inl f9)))]) hJ
  have hC := hJ.2.2.2.1.2.2.2
  refine lv_aload_n hx hb dL_bestUp_0 rfl (lv_at hl 2 rfl) ?_
  refine lv_iconst (v := 0) hx hb dL_bestUp_1 (by decide +kernel) ?_
  refine lv_aload_n hx hb dL_bestUp_2 rfl (lv_at hl 0 rfl) ?_
  refine lv_iload_n hx hb dL_bestUp_3 rfl (lv_at hl 1 rfl) ?_
  refine s_hm hS (s_hp hJ (vx_runV (As := [.int x]) (rest := [.int 0, .ref (ad 68)]) ⟨hx, hb, hml, hown, hts⟩ (c_X3_bestUp l hfl D B ad κ x) (cwV 1 hts gL_bestUp_X3_bestUp rfl rfl rfl hdW_X3_bestUp ⟨Nat.le_of_ble_eq_true rfl, Nat.le_of_ble_eq_true rfl⟩) (sPV hJ3 (ci := 3) (q0 := 0) rfl rfl) rfl rfl hl.1 rfl (lv_room (Nat.le_of_ble_eq_true rfl)) dL_bestUp_4 ⟨Nat.le_of_ble_eq_true rfl, Nat.le_of_ble_eq_true rfl⟩)) (fun E ce q9 H locs hE hS hce hv hcl => ?_) (fun H locs hok hS => ?_)
  ·
    obtain ⟨rfl, hno⟩ := hE
    refine vx_catch (own := RL) (name := E_I) hown [] ⟨0, 9, 12, 24⟩ [] hT (fun z hz => absurd hz List.not_mem_nil) rfl (by decide) (hts (.classLink RL 24 E_I) (by decide +kernel)) (va_Nw.use rfl hC.2.2.2.2.1) hce hv hcl ?_
    refine lv_astore_n (lv' := [(3, .ref q9), (0, .ref (ad 0)), (1, .int x), (2, .ref (ad 68))]) hx hb dL_bestUp_12 rfl hl (by decide) rfl (fun ls hl => ?_)
    refine lv_iconst (v := 1) hx hb dL_bestUp_13 (by decide +kernel) ?_
    exact s_hret hx hb hr hlk dL_bestUp_14 ((if_neg hno).symm) (fun hok => absurd hok hno) (rfl) hS (Nat.le_of_ble_eq_true rfl) (Nat.le_of_ble_eq_true rfl)
  ·
    refine lv_i2l hx hb dL_bestUp_7 rfl ?_
    refine s_ho hx hb hS dL_bestUp_8 (fun H locs g hg hS => ?_)
    refine lv_goto (tgt := 15) hx hb dL_bestUp_9 (by decide) ?_
    refine lv_iconst (v := 0) hx hb dL_bestUp_15 (by decide +kernel) ?_
    exact s_hret hx hb hr hlk dL_bestUp_16 ((if_pos hok).symm) (fun _ => hg) (rfl) hS (Nat.le_of_ble_eq_true rfl) (Nat.le_of_ble_eq_true rfl)
set_option maxRecDepth 100000 in
theorem h_bestDown (l : Launch) (hfl : l.flags = flags0) (D : sD) (B : Nat) (ad : Nat → Nat) (κ : sQ) (f9 : Nat → Int64) (sz : Nat) (x : Int32) : vx_Met l yL_bestDown wsL_bestDown ({ frames := 8, cells := 1, slots := 6, locals := 123 } : Room) (sPz D B (OW D ad κ f9) sz ([.ref (ad 0), .int x, .ref (ad 68)] : List Value)) (va_Qi (S := Nat → Int64) (fun rr g => rr = rE ((0 ≤ x ∧ x ≤ 9)) ∧ ((0 ≤ x ∧ x ≤ 9) → g 0 = Int32.toInt64 ((upB (fun r => (-1) * κ 1 (r * 10 + iN x) * cs (midI (nI r))) 9 10).1))) (fun g t => va_P D.1 vwCl (OW D ad κ g) t.heap) (rA 69 ad sz)) (fun _ _ _ => False) 1 6 (rA 69 ad sz) := by
  refine s_headH (cc := cL_bestDown) (maxL := 4) (ret := some .int) (hh := [(0, 9, 12, 24)]) (by decide +kernel) rfl (Nat.le_of_ble_eq_true rfl) ?_
  intro p e s m below meth c hx hb hr hlk hml hown hT hts hB ls hl
  obtain ⟨hsz, hJ⟩ := hB
  subst hsz
  have hown : s.vm.findClass RL = some m.cls := hown
  have hl : lv_has ls 4 [(0, .ref (ad 0)), (1, .int x), (2, .ref (ad 68))] := hl
  have hS := sS.start hJ (OW_adr D ad κ f9)
  have hJ3 : sJ D B (CW D ad κ) s s.heap := sJ.left (b := [(ad 68, .inl (D.2.2.2.1, 1, .inr (.inl f9)))]) hJ
  have hC := hJ.2.2.2.1.2.2.2
  refine lv_aload_n hx hb dL_bestDown_0 rfl (lv_at hl 2 rfl) ?_
  refine lv_iconst (v := 0) hx hb dL_bestDown_1 (by decide +kernel) ?_
  refine lv_aload_n hx hb dL_bestDown_2 rfl (lv_at hl 0 rfl) ?_
  refine lv_iload_n hx hb dL_bestDown_3 rfl (lv_at hl 1 rfl) ?_
  refine s_hm hS (s_hp hJ (vx_runV (As := [.int x]) (rest := [.int 0, .ref (ad 68)]) ⟨hx, hb, hml, hown, hts⟩ (c_X3_bestDown l hfl D B ad κ x) (cwV 1 hts gL_bestDown_X3_bestDown rfl rfl rfl hdW_X3_bestDown ⟨Nat.le_of_ble_eq_true rfl, Nat.le_of_ble_eq_true rfl⟩) (sPV hJ3 (ci := 3) (q0 := 0) rfl rfl) rfl rfl hl.1 rfl (lv_room (Nat.le_of_ble_eq_true rfl)) dL_bestDown_4 ⟨Nat.le_of_ble_eq_true rfl, Nat.le_of_ble_eq_true rfl⟩)) (fun E ce q9 H locs hE hS hce hv hcl => ?_) (fun H locs hok hS => ?_)
  ·
    obtain ⟨rfl, hno⟩ := hE
    refine vx_catch (own := RL) (name := E_I) hown [] ⟨0, 9, 12, 24⟩ [] hT (fun z hz => absurd hz List.not_mem_nil) rfl (by decide) (hts (.classLink RL 24 E_I) (by decide +kernel)) (va_Nw.use rfl hC.2.2.2.2.1) hce hv hcl ?_
    refine lv_astore_n (lv' := [(3, .ref q9), (0, .ref (ad 0)), (1, .int x), (2, .ref (ad 68))]) hx hb dL_bestDown_12 rfl hl (by decide) rfl (fun ls hl => ?_)
    refine lv_iconst (v := 1) hx hb dL_bestDown_13 (by decide +kernel) ?_
    exact s_hret hx hb hr hlk dL_bestDown_14 ((if_neg hno).symm) (fun hok => absurd hok hno) (rfl) hS (Nat.le_of_ble_eq_true rfl) (Nat.le_of_ble_eq_true rfl)
  ·
    refine lv_i2l hx hb dL_bestDown_7 rfl ?_
    refine s_ho hx hb hS dL_bestDown_8 (fun H locs g hg hS => ?_)
    refine lv_goto (tgt := 15) hx hb dL_bestDown_9 (by decide) ?_
    refine lv_iconst (v := 0) hx hb dL_bestDown_15 (by decide +kernel) ?_
    exact s_hret hx hb hr hlk dL_bestDown_16 ((if_pos hok).symm) (fun _ => hg) (rfl) hS (Nat.le_of_ble_eq_true rfl) (Nat.le_of_ble_eq_true rfl)
set_option maxRecDepth 100000 in
theorem h_bestCourse (l : Launch) (hfl : l.flags = flags0) (D : sD) (B : Nat) (ad : Nat → Nat) (κ : sQ) (f9 : Nat → Int64) (sz : Nat) (x : Int32) (f : Int32) (b : Int32) : vx_Met l yL_bestCourse wsL_bestCourse ({ frames := 8, cells := 3, slots := 18, locals := 130 } : Room) (sPz D B (OW D ad κ f9) sz ([.ref (ad 0), .int x, .int f, .int b, .ref (ad 68)] : List Value)) (va_Qi (S := Nat → Int64) (fun rr g => rr = rL (0 ≤ x ∧ x ≤ 9) ((0 ≤ f ∧ f ≤ 359) ∧ (0 ≤ b ∧ b ≤ 359)) ∧ (((0 ≤ x ∧ x ≤ 9) ∧ (0 ≤ f ∧ f ≤ 359) ∧ (0 ≤ b ∧ b ≤ 359)) → g 0 = Int32.toInt64 ((upB (fun h => κ 1 (rN (t360 (f + -(nI h))) * 10 + iN x) * cs (nI h - b)) 0 360).1))) (fun g t => va_P D.1 vwCl (OW D ad κ g) t.heap) (rA 69 ad sz)) (fun _ _ _ => False) 3 18 (rA 69 ad sz) := by
  refine s_headH (cc := cL_bestCourse) (maxL := 6) (ret := some .int) (hh := [(0, 12, 15, 24), (0, 12, 19, 13)]) (by decide +kernel) rfl (Nat.le_of_ble_eq_true rfl) ?_
  intro p e s m below meth c hx hb hr hlk hml hown hT hts hB ls hl
  obtain ⟨hsz, hJ⟩ := hB
  subst hsz
  have hown : s.vm.findClass RL = some m.cls := hown
  have hl : lv_has ls 6 [(0, .ref (ad 0)), (1, .int x), (2, .int f), (3, .int b), (4, .ref (ad 68))] := hl
  have hS := sS.start hJ (OW_adr D ad κ f9)
  have hJ3 : sJ D B (CW D ad κ) s s.heap := sJ.left (b := [(ad 68, .inl (D.2.2.2.1, 1, .inr (.inl f9)))]) hJ
  have hC := hJ.2.2.2.1.2.2.2
  refine lv_aload hx hb dL_bestCourse_0 (lv_at hl 4 rfl) ?_
  refine lv_iconst (v := 0) hx hb dL_bestCourse_2 (by decide +kernel) ?_
  refine lv_aload_n hx hb dL_bestCourse_3 rfl (lv_at hl 0 rfl) ?_
  refine lv_iload_n hx hb dL_bestCourse_4 rfl (lv_at hl 1 rfl) ?_
  refine lv_iload_n hx hb dL_bestCourse_5 rfl (lv_at hl 2 rfl) ?_
  refine lv_iload_n hx hb dL_bestCourse_6 rfl (lv_at hl 3 rfl) ?_
  refine s_hm hS (s_hp hJ (vx_runV (As := [.int x, .int f, .int b]) (rest := [.int 0, .ref (ad 68)]) ⟨hx, hb, hml, hown, hts⟩ (c_X3_bestCourse l hfl D B ad κ x f b) (cwV 3 hts gL_bestCourse_X3_bestCourse rfl rfl rfl hdW_X3_bestCourse ⟨Nat.le_of_ble_eq_true rfl, Nat.le_of_ble_eq_true rfl⟩) (sPV hJ3 (ci := 3) (q0 := 0) rfl rfl) rfl rfl hl.1 rfl (lv_room (Nat.le_of_ble_eq_true rfl)) dL_bestCourse_7 ⟨Nat.le_of_ble_eq_true rfl, Nat.le_of_ble_eq_true rfl⟩)) (fun E ce q9 H locs hE hS hce hv hcl => ?_) (fun H locs hok hS => ?_)
  ·
    rcases hE with ⟨rfl, hna⟩ | ⟨rfl, ha, hnb⟩
    ·
      have hno : ¬ (((0 ≤ x ∧ x ≤ 9) ∧ (0 ≤ f ∧ f ≤ 359) ∧ (0 ≤ b ∧ b ≤ 359))) := fun q => hna q.1
      refine vx_catch (own := RL) (name := E_I) hown [] ⟨0, 12, 15, 24⟩ [⟨0, 12, 19, 13⟩] hT (fun z hz => absurd hz List.not_mem_nil) rfl (by decide) (hts (.classLink RL 24 E_I) (by decide +kernel)) (va_Nw.use rfl hC.2.2.2.2.1) hce hv hcl ?_
      refine lv_astore (lv' := [(5, .ref q9), (0, .ref (ad 0)), (1, .int x), (2, .int f), (3, .int b), (4, .ref (ad 68))]) hx hb dL_bestCourse_15 hl (by decide) rfl (fun ls hl => ?_)
      refine lv_iconst (v := 1) hx hb dL_bestCourse_17 (by decide +kernel) ?_
      exact s_hret hx hb hr hlk dL_bestCourse_18 (by rw [rL, if_neg hna]) (fun hok => absurd hok hno) (rfl) hS (Nat.le_of_ble_eq_true rfl) (Nat.le_of_ble_eq_true rfl)
    ·
      have hno : ¬ (((0 ≤ x ∧ x ≤ 9) ∧ (0 ≤ f ∧ f ≤ 359) ∧ (0 ≤ b ∧ b ≤ 359))) := fun q => hnb q.2
      refine vx_catch (own := RL) (name := E_A) hown [⟨0, 12, 15, 24⟩] ⟨0, 12, 19, 13⟩ [] hT (fun z hz => by cases List.mem_singleton.mp hz; exact Or.inr ⟨(by decide), E_I, hts (.classLink RL 24 E_I) (by decide +kernel), hC.2.1⟩) rfl (by decide) (hts (.classLink RL 13 E_A) (by decide +kernel)) (va_Nw.use rfl hC.2.2.1) hce hv hcl ?_
      refine lv_astore (lv' := [(5, .ref q9), (0, .ref (ad 0)), (1, .int x), (2, .int f), (3, .int b), (4, .ref (ad 68))]) hx hb dL_bestCourse_19 hl (by decide) rfl (fun ls hl => ?_)
      refine lv_iconst (v := 2) hx hb dL_bestCourse_21 (by decide +kernel) ?_
      exact s_hret hx hb hr hlk dL_bestCourse_22 (by rw [rL, if_pos ha, if_neg hnb]) (fun hok => absurd hok hno) (rfl) hS (Nat.le_of_ble_eq_true rfl) (Nat.le_of_ble_eq_true rfl)
  ·
    refine lv_i2l hx hb dL_bestCourse_10 rfl ?_
    refine s_ho hx hb hS dL_bestCourse_11 (fun H locs g hg hS => ?_)
    refine lv_goto (tgt := 23) hx hb dL_bestCourse_12 (by decide) ?_
    refine lv_iconst (v := 0) hx hb dL_bestCourse_23 (by decide +kernel) ?_
    exact s_hret hx hb hr hlk dL_bestCourse_24 (by rw [rL, if_pos hok.1, if_pos hok.2]) (fun _ => hg) (rfl) hS (Nat.le_of_ble_eq_true rfl) (Nat.le_of_ble_eq_true rfl)
set_option maxRecDepth 100000 in
theorem h_turn (l : Launch) (hfl : l.flags = flags0) (D : sD) (B : Nat) (ad : Nat → Nat) (κ : sQ) (f9 : Nat → Int64) (sz : Nat) (x : Int32) (n : Nat) (hn9 : κ 0 0 = nI n) (hn60 : n ≤ 60) : vx_Met l yL_turn wsL_turn ({ frames := 8, cells := 1, slots := 6, locals := 124 } : Room) (sPz D B (OW D ad κ f9) sz ([.ref (ad 0), .int x, .ref (ad 68)] : List Value)) (va_Qi (S := Nat → Int64) (fun rr g => rr = rE ((0 ≤ x ∧ x ≤ (κ 0 0 - 1))) ∧ ((0 ≤ x ∧ x ≤ (κ 0 0 - 1)) → g 0 = Int32.toInt64 (kindF (κ 12) (iN x)))) (fun g t => va_P D.1 vwCl (OW D ad κ g) t.heap) (rA 69 ad sz)) (fun _ _ _ => False) 1 6 (rA 69 ad sz) := by
  refine s_headH (cc := cL_turn) (maxL := 4) (ret := some .int) (hh := [(0, 9, 12, 24)]) (by decide +kernel) rfl (Nat.le_of_ble_eq_true rfl) ?_
  intro p e s m below meth c hx hb hr hlk hml hown hT hts hB ls hl
  obtain ⟨hsz, hJ⟩ := hB
  subst hsz
  have hown : s.vm.findClass RL = some m.cls := hown
  have hl : lv_has ls 4 [(0, .ref (ad 0)), (1, .int x), (2, .ref (ad 68))] := hl
  have hS := sS.start hJ (OW_adr D ad κ f9)
  have hJ3 : sJ D B (CW D ad κ) s s.heap := sJ.left (b := [(ad 68, .inl (D.2.2.2.1, 1, .inr (.inl f9)))]) hJ
  have hC := hJ.2.2.2.1.2.2.2
  refine lv_aload_n hx hb dL_turn_0 rfl (lv_at hl 2 rfl) ?_
  refine lv_iconst (v := 0) hx hb dL_turn_1 (by decide +kernel) ?_
  refine lv_aload_n hx hb dL_turn_2 rfl (lv_at hl 0 rfl) ?_
  refine lv_iload_n hx hb dL_turn_3 rfl (lv_at hl 1 rfl) ?_
  refine s_hm hS (s_hp hJ (vx_runV (As := [.int x]) (rest := [.int 0, .ref (ad 68)]) ⟨hx, hb, hml, hown, hts⟩ (c_X3_turn l hfl D B ad κ x n hn9 hn60) (cwV 1 hts gL_turn_X3_turn rfl rfl rfl hdW_X3_turn ⟨Nat.le_of_ble_eq_true rfl, Nat.le_of_ble_eq_true rfl⟩) (sPV hJ3 (ci := 3) (q0 := 0) rfl rfl) rfl rfl hl.1 rfl (lv_room (Nat.le_of_ble_eq_true rfl)) dL_turn_4 ⟨Nat.le_of_ble_eq_true rfl, Nat.le_of_ble_eq_true rfl⟩)) (fun E ce q9 H locs hE hS hce hv hcl => ?_) (fun H locs hok hS => ?_)
  ·
    obtain ⟨rfl, hno⟩ := hE
    refine vx_catch (own := RL) (name := E_I) hown [] ⟨0, 9, 12, 24⟩ [] hT (fun z hz => absurd hz List.not_mem_nil) rfl (by decide) (hts (.classLink RL 24 E_I) (by decide +kernel)) (va_Nw.use rfl hC.2.2.2.2.1) hce hv hcl ?_
    refine lv_astore_n (lv' := [(3, .ref q9), (0, .ref (ad 0)), (1, .int x), (2, .ref (ad 68))]) hx hb dL_turn_12 rfl hl (by decide) rfl (fun ls hl => ?_)
    refine lv_iconst (v := 1) hx hb dL_turn_13 (by decide +kernel) ?_
    exact s_hret hx hb hr hlk dL_turn_14 ((if_neg hno).symm) (fun hok => absurd hok hno) (rfl) hS (Nat.le_of_ble_eq_true rfl) (Nat.le_of_ble_eq_true rfl)
  ·
    refine lv_i2l hx hb dL_turn_7 rfl ?_
    refine s_ho hx hb hS dL_turn_8 (fun H locs g hg hS => ?_)
    refine lv_goto (tgt := 15) hx hb dL_turn_9 (by decide) ?_
    refine lv_iconst (v := 0) hx hb dL_turn_15 (by decide +kernel) ?_
    exact s_hret hx hb hr hlk dL_turn_16 ((if_pos hok).symm) (fun _ => hg) (rfl) hS (Nat.le_of_ble_eq_true rfl) (Nat.le_of_ble_eq_true rfl)
set_option maxRecDepth 100000 in
theorem h_cost (l : Launch) (hfl : l.flags = flags0) (D : sD) (B : Nat) (ad : Nat → Nat) (κ : sQ) (f9 : Nat → Int64) (sz : Nat) (x : Int32) (n : Nat) (hn9 : κ 0 0 = nI n) (hn60 : n ≤ 60) : vx_Met l yL_cost wsL_cost ({ frames := 8, cells := 1, slots := 6, locals := 125 } : Room) (sPz D B (OW D ad κ f9) sz ([.ref (ad 0), .int x, .ref (ad 68)] : List Value)) (va_Qi (S := Nat → Int64) (fun rr g => rr = rE ((0 ≤ x ∧ x ≤ (κ 0 0 - 1))) ∧ ((0 ≤ x ∧ x ≤ (κ 0 0 - 1)) → g 0 = Int32.toInt64 (lossF (κ 12) (κ 4) (κ 9) n (iN x)))) (fun g t => va_P D.1 vwCl (OW D ad κ g) t.heap) (rA 69 ad sz)) (fun _ _ _ => False) 1 6 (rA 69 ad sz) := by
  refine s_headH (cc := cL_cost) (maxL := 4) (ret := some .int) (hh := [(0, 9, 12, 24)]) (by decide +kernel) rfl (Nat.le_of_ble_eq_true rfl) ?_
  intro p e s m below meth c hx hb hr hlk hml hown hT hts hB ls hl
  obtain ⟨hsz, hJ⟩ := hB
  subst hsz
  have hown : s.vm.findClass RL = some m.cls := hown
  have hl : lv_has ls 4 [(0, .ref (ad 0)), (1, .int x), (2, .ref (ad 68))] := hl
  have hS := sS.start hJ (OW_adr D ad κ f9)
  have hJ3 : sJ D B (CW D ad κ) s s.heap := sJ.left (b := [(ad 68, .inl (D.2.2.2.1, 1, .inr (.inl f9)))]) hJ
  have hC := hJ.2.2.2.1.2.2.2
  refine lv_aload_n hx hb dL_cost_0 rfl (lv_at hl 2 rfl) ?_
  refine lv_iconst (v := 0) hx hb dL_cost_1 (by decide +kernel) ?_
  refine lv_aload_n hx hb dL_cost_2 rfl (lv_at hl 0 rfl) ?_
  refine lv_iload_n hx hb dL_cost_3 rfl (lv_at hl 1 rfl) ?_
  refine s_hm hS (s_hp hJ (vx_runV (As := [.int x]) (rest := [.int 0, .ref (ad 68)]) ⟨hx, hb, hml, hown, hts⟩ (c_X3_cost l hfl D B ad κ x n hn9 hn60) (cwV 1 hts gL_cost_X3_cost rfl rfl rfl hdW_X3_cost ⟨Nat.le_of_ble_eq_true rfl, Nat.le_of_ble_eq_true rfl⟩) (sPV hJ3 (ci := 3) (q0 := 0) rfl rfl) rfl rfl hl.1 rfl (lv_room (Nat.le_of_ble_eq_true rfl)) dL_cost_4 ⟨Nat.le_of_ble_eq_true rfl, Nat.le_of_ble_eq_true rfl⟩)) (fun E ce q9 H locs hE hS hce hv hcl => ?_) (fun H locs hok hS => ?_)
  ·
    obtain ⟨rfl, hno⟩ := hE
    refine vx_catch (own := RL) (name := E_I) hown [] ⟨0, 9, 12, 24⟩ [] hT (fun z hz => absurd hz List.not_mem_nil) rfl (by decide) (hts (.classLink RL 24 E_I) (by decide +kernel)) (va_Nw.use rfl hC.2.2.2.2.1) hce hv hcl ?_
    refine lv_astore_n (lv' := [(3, .ref q9), (0, .ref (ad 0)), (1, .int x), (2, .ref (ad 68))]) hx hb dL_cost_12 rfl hl (by decide) rfl (fun ls hl => ?_)
    refine lv_iconst (v := 1) hx hb dL_cost_13 (by decide +kernel) ?_
    exact s_hret hx hb hr hlk dL_cost_14 ((if_neg hno).symm) (fun hok => absurd hok hno) (rfl) hS (Nat.le_of_ble_eq_true rfl) (Nat.le_of_ble_eq_true rfl)
  ·
    refine lv_i2l hx hb dL_cost_7 rfl ?_
    refine s_ho hx hb hS dL_cost_8 (fun H locs g hg hS => ?_)
    refine lv_goto (tgt := 15) hx hb dL_cost_9 (by decide) ?_
    refine lv_iconst (v := 0) hx hb dL_cost_15 (by decide +kernel) ?_
    exact s_hret hx hb hr hlk dL_cost_16 ((if_pos hok).symm) (fun _ => hg) (rfl) hS (Nat.le_of_ble_eq_true rfl) (Nat.le_of_ble_eq_true rfl)
set_option maxRecDepth 100000 in
theorem h_costs (l : Launch) (hfl : l.flags = flags0) (D : sD) (B : Nat) (ad : Nat → Nat) (κ : sQ) (f9 : Nat → Int64) (sz : Nat) (x : Int32) (n : Nat) (hn9 : κ 0 0 = nI n) (hn60 : n ≤ 60) : vx_Met l yL_costs wsL_costs ({ frames := 8, cells := 1, slots := 6, locals := 127 } : Room) (sPz D B (OW D ad κ f9) sz ([.ref (ad 0), .int x, .ref (ad 68)] : List Value)) (va_Qi (S := Nat → Int64) (fun rr g => rr = rE ((x = 1 ∨ x = 2)) ∧ ((x = 1 ∨ x = 2) → g 0 = Int32.toInt64 (costF (κ 12) (κ 4) (κ 9) n x n))) (fun g t => va_P D.1 vwCl (OW D ad κ g) t.heap) (rA 69 ad sz)) (fun _ _ _ => False) 1 6 (rA 69 ad sz) := by
  refine s_headH (cc := cL_costs) (maxL := 4) (ret := some .int) (hh := [(0, 9, 12, 13)]) (by decide +kernel) rfl (Nat.le_of_ble_eq_true rfl) ?_
  intro p e s m below meth c hx hb hr hlk hml hown hT hts hB ls hl
  obtain ⟨hsz, hJ⟩ := hB
  subst hsz
  have hown : s.vm.findClass RL = some m.cls := hown
  have hl : lv_has ls 4 [(0, .ref (ad 0)), (1, .int x), (2, .ref (ad 68))] := hl
  have hS := sS.start hJ (OW_adr D ad κ f9)
  have hJ3 : sJ D B (CW D ad κ) s s.heap := sJ.left (b := [(ad 68, .inl (D.2.2.2.1, 1, .inr (.inl f9)))]) hJ
  have hC := hJ.2.2.2.1.2.2.2
  refine lv_aload_n hx hb dL_costs_0 rfl (lv_at hl 2 rfl) ?_
  refine lv_iconst (v := 0) hx hb dL_costs_1 (by decide +kernel) ?_
  refine lv_aload_n hx hb dL_costs_2 rfl (lv_at hl 0 rfl) ?_
  refine lv_iload_n hx hb dL_costs_3 rfl (lv_at hl 1 rfl) ?_
  refine s_hm hS (s_hp hJ (vx_runV (As := [.int x]) (rest := [.int 0, .ref (ad 68)]) ⟨hx, hb, hml, hown, hts⟩ (c_X3_costs l hfl D B ad κ x n hn9 hn60) (cwV 1 hts gL_costs_X3_costs rfl rfl rfl hdW_X3_costs ⟨Nat.le_of_ble_eq_true rfl, Nat.le_of_ble_eq_true rfl⟩) (sPV hJ3 (ci := 3) (q0 := 0) rfl rfl) rfl rfl hl.1 rfl (lv_room (Nat.le_of_ble_eq_true rfl)) dL_costs_4 ⟨Nat.le_of_ble_eq_true rfl, Nat.le_of_ble_eq_true rfl⟩)) (fun E ce q9 H locs hE hS hce hv hcl => ?_) (fun H locs hok hS => ?_)
  ·
    obtain ⟨rfl, hno⟩ := hE
    refine vx_catch (own := RL) (name := E_A) hown [] ⟨0, 9, 12, 13⟩ [] hT (fun z hz => absurd hz List.not_mem_nil) rfl (by decide) (hts (.classLink RL 13 E_A) (by decide +kernel)) (va_Nw.use rfl hC.2.2.1) hce hv hcl ?_
    refine lv_astore_n (lv' := [(3, .ref q9), (0, .ref (ad 0)), (1, .int x), (2, .ref (ad 68))]) hx hb dL_costs_12 rfl hl (by decide) rfl (fun ls hl => ?_)
    refine lv_iconst (v := 1) hx hb dL_costs_13 (by decide +kernel) ?_
    exact s_hret hx hb hr hlk dL_costs_14 ((if_neg hno).symm) (fun hok => absurd hok hno) (rfl) hS (Nat.le_of_ble_eq_true rfl) (Nat.le_of_ble_eq_true rfl)
  ·
    refine lv_i2l hx hb dL_costs_7 rfl ?_
    refine s_ho hx hb hS dL_costs_8 (fun H locs g hg hS => ?_)
    refine lv_goto (tgt := 15) hx hb dL_costs_9 (by decide) ?_
    refine lv_iconst (v := 0) hx hb dL_costs_15 (by decide +kernel) ?_
    exact s_hret hx hb hr hlk dL_costs_16 ((if_pos hok).symm) (fun _ => hg) (rfl) hS (Nat.le_of_ble_eq_true rfl) (Nat.le_of_ble_eq_true rfl)
set_option maxRecDepth 100000 in
theorem h_east (l : Launch) (hfl : l.flags = flags0) (D : sD) (B : Nat) (ad : Nat → Nat) (κ : sQ) (f9 : Nat → Int64) (sz : Nat) (x : Int32) (n : Nat) (hn9 : κ 0 0 = nI n) (hn60 : n ≤ 60) (hmi : ∀ i, i < n → ∃ k, k < 1440 ∧ κ 4 i = nI k) : vx_Met l yL_east wsL_east ({ frames := 8, cells := 1, slots := 6, locals := 124 } : Room) (sPz D B (OW D ad κ f9) sz ([.ref (ad 0), .int x, .ref (ad 68)] : List Value)) (va_Qi (S := Nat → Int64) (fun rr g => rr = rE ((0 ≤ x ∧ x ≤ (κ 0 0 - 1))) ∧ ((0 ≤ x ∧ x ≤ (κ 0 0 - 1)) → g 0 = Int32.toInt64 ((fd6 (wayS (κ 4) (κ 9) (κ 10) (κ 2) (κ 3) 0 (iN x))).toInt32))) (fun g t => va_P D.1 vwCl (OW D ad κ g) t.heap) (rA 69 ad sz)) (fun _ _ _ => False) 1 6 (rA 69 ad sz) := by
  refine s_headH (cc := cL_east) (maxL := 4) (ret := some .int) (hh := [(0, 9, 12, 24)]) (by decide +kernel) rfl (Nat.le_of_ble_eq_true rfl) ?_
  intro p e s m below meth c hx hb hr hlk hml hown hT hts hB ls hl
  obtain ⟨hsz, hJ⟩ := hB
  subst hsz
  have hown : s.vm.findClass RL = some m.cls := hown
  have hl : lv_has ls 4 [(0, .ref (ad 0)), (1, .int x), (2, .ref (ad 68))] := hl
  have hS := sS.start hJ (OW_adr D ad κ f9)
  have hJ3 : sJ D B (CW D ad κ) s s.heap := sJ.left (b := [(ad 68, .inl (D.2.2.2.1, 1, .inr (.inl f9)))]) hJ
  have hC := hJ.2.2.2.1.2.2.2
  refine lv_aload_n hx hb dL_east_0 rfl (lv_at hl 2 rfl) ?_
  refine lv_iconst (v := 0) hx hb dL_east_1 (by decide +kernel) ?_
  refine lv_aload_n hx hb dL_east_2 rfl (lv_at hl 0 rfl) ?_
  refine lv_iload_n hx hb dL_east_3 rfl (lv_at hl 1 rfl) ?_
  refine s_hm hS (s_hp hJ (vx_runV (As := [.int x]) (rest := [.int 0, .ref (ad 68)]) ⟨hx, hb, hml, hown, hts⟩ (c_X3_east l hfl D B ad κ x n hn9 hn60 hmi) (cwV 1 hts gL_east_X3_east rfl rfl rfl hdW_X3_east ⟨Nat.le_of_ble_eq_true rfl, Nat.le_of_ble_eq_true rfl⟩) (sPV hJ3 (ci := 3) (q0 := 0) rfl rfl) rfl rfl hl.1 rfl (lv_room (Nat.le_of_ble_eq_true rfl)) dL_east_4 ⟨Nat.le_of_ble_eq_true rfl, Nat.le_of_ble_eq_true rfl⟩)) (fun E ce q9 H locs hE hS hce hv hcl => ?_) (fun H locs hok hS => ?_)
  ·
    obtain ⟨rfl, hno⟩ := hE
    refine vx_catch (own := RL) (name := E_I) hown [] ⟨0, 9, 12, 24⟩ [] hT (fun z hz => absurd hz List.not_mem_nil) rfl (by decide) (hts (.classLink RL 24 E_I) (by decide +kernel)) (va_Nw.use rfl hC.2.2.2.2.1) hce hv hcl ?_
    refine lv_astore_n (lv' := [(3, .ref q9), (0, .ref (ad 0)), (1, .int x), (2, .ref (ad 68))]) hx hb dL_east_12 rfl hl (by decide) rfl (fun ls hl => ?_)
    refine lv_iconst (v := 1) hx hb dL_east_13 (by decide +kernel) ?_
    exact s_hret hx hb hr hlk dL_east_14 ((if_neg hno).symm) (fun hok => absurd hok hno) (rfl) hS (Nat.le_of_ble_eq_true rfl) (Nat.le_of_ble_eq_true rfl)
  ·
    refine lv_i2l hx hb dL_east_7 rfl ?_
    refine s_ho hx hb hS dL_east_8 (fun H locs g hg hS => ?_)
    refine lv_goto (tgt := 15) hx hb dL_east_9 (by decide) ?_
    refine lv_iconst (v := 0) hx hb dL_east_15 (by decide +kernel) ?_
    exact s_hret hx hb hr hlk dL_east_16 ((if_pos hok).symm) (fun _ => hg) (rfl) hS (Nat.le_of_ble_eq_true rfl) (Nat.le_of_ble_eq_true rfl)
set_option maxRecDepth 100000 in
theorem h_north (l : Launch) (hfl : l.flags = flags0) (D : sD) (B : Nat) (ad : Nat → Nat) (κ : sQ) (f9 : Nat → Int64) (sz : Nat) (x : Int32) (n : Nat) (hn9 : κ 0 0 = nI n) (hn60 : n ≤ 60) (hmi : ∀ i, i < n → ∃ k, k < 1440 ∧ κ 4 i = nI k) : vx_Met l yL_north wsL_north ({ frames := 8, cells := 1, slots := 6, locals := 124 } : Room) (sPz D B (OW D ad κ f9) sz ([.ref (ad 0), .int x, .ref (ad 68)] : List Value)) (va_Qi (S := Nat → Int64) (fun rr g => rr = rE ((0 ≤ x ∧ x ≤ (κ 0 0 - 1))) ∧ ((0 ≤ x ∧ x ≤ (κ 0 0 - 1)) → g 0 = Int32.toInt64 ((fd6 (wayS (κ 4) (κ 9) (κ 10) (κ 2) (κ 3) 90 (iN x))).toInt32))) (fun g t => va_P D.1 vwCl (OW D ad κ g) t.heap) (rA 69 ad sz)) (fun _ _ _ => False) 1 6 (rA 69 ad sz) := by
  refine s_headH (cc := cL_north) (maxL := 4) (ret := some .int) (hh := [(0, 9, 12, 24)]) (by decide +kernel) rfl (Nat.le_of_ble_eq_true rfl) ?_
  intro p e s m below meth c hx hb hr hlk hml hown hT hts hB ls hl
  obtain ⟨hsz, hJ⟩ := hB
  subst hsz
  have hown : s.vm.findClass RL = some m.cls := hown
  have hl : lv_has ls 4 [(0, .ref (ad 0)), (1, .int x), (2, .ref (ad 68))] := hl
  have hS := sS.start hJ (OW_adr D ad κ f9)
  have hJ3 : sJ D B (CW D ad κ) s s.heap := sJ.left (b := [(ad 68, .inl (D.2.2.2.1, 1, .inr (.inl f9)))]) hJ
  have hC := hJ.2.2.2.1.2.2.2
  refine lv_aload_n hx hb dL_north_0 rfl (lv_at hl 2 rfl) ?_
  refine lv_iconst (v := 0) hx hb dL_north_1 (by decide +kernel) ?_
  refine lv_aload_n hx hb dL_north_2 rfl (lv_at hl 0 rfl) ?_
  refine lv_iload_n hx hb dL_north_3 rfl (lv_at hl 1 rfl) ?_
  refine s_hm hS (s_hp hJ (vx_runV (As := [.int x]) (rest := [.int 0, .ref (ad 68)]) ⟨hx, hb, hml, hown, hts⟩ (c_X3_north l hfl D B ad κ x n hn9 hn60 hmi) (cwV 1 hts gL_north_X3_north rfl rfl rfl hdW_X3_north ⟨Nat.le_of_ble_eq_true rfl, Nat.le_of_ble_eq_true rfl⟩) (sPV hJ3 (ci := 3) (q0 := 0) rfl rfl) rfl rfl hl.1 rfl (lv_room (Nat.le_of_ble_eq_true rfl)) dL_north_4 ⟨Nat.le_of_ble_eq_true rfl, Nat.le_of_ble_eq_true rfl⟩)) (fun E ce q9 H locs hE hS hce hv hcl => ?_) (fun H locs hok hS => ?_)
  ·
    obtain ⟨rfl, hno⟩ := hE
    refine vx_catch (own := RL) (name := E_I) hown [] ⟨0, 9, 12, 24⟩ [] hT (fun z hz => absurd hz List.not_mem_nil) rfl (by decide) (hts (.classLink RL 24 E_I) (by decide +kernel)) (va_Nw.use rfl hC.2.2.2.2.1) hce hv hcl ?_
    refine lv_astore_n (lv' := [(3, .ref q9), (0, .ref (ad 0)), (1, .int x), (2, .ref (ad 68))]) hx hb dL_north_12 rfl hl (by decide) rfl (fun ls hl => ?_)
    refine lv_iconst (v := 1) hx hb dL_north_13 (by decide +kernel) ?_
    exact s_hret hx hb hr hlk dL_north_14 ((if_neg hno).symm) (fun hok => absurd hok hno) (rfl) hS (Nat.le_of_ble_eq_true rfl) (Nat.le_of_ble_eq_true rfl)
  ·
    refine lv_i2l hx hb dL_north_7 rfl ?_
    refine s_ho hx hb hS dL_north_8 (fun H locs g hg hS => ?_)
    refine lv_goto (tgt := 15) hx hb dL_north_9 (by decide) ?_
    refine lv_iconst (v := 0) hx hb dL_north_15 (by decide +kernel) ?_
    exact s_hret hx hb hr hlk dL_north_16 ((if_pos hok).symm) (fun _ => hg) (rfl) hS (Nat.le_of_ble_eq_true rfl) (Nat.le_of_ble_eq_true rfl)
end SHelp
