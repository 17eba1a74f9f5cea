set_option maxRecDepth 100000 in
set_option maxHeartbeats 4000000 in
theorem c_X3_setFaults (l : Launch) (hfl : l.flags = flags0) (D : sD) (B : Nat) (ad : Nat → Nat) (κ : sQ) (sz : Nat) (f : Int32) (c1 : Int32) (v : Int32) (n : Nat) (hn9 : κ 0 0 = nI n) (hn60 : n ≤ 60) (hok : ∀ i, i < n → (0 ≤ κ 5 i ∧ κ 5 i ≤ 300) ∧ (0 ≤ κ 7 i ∧ κ 7 i ≤ 600)) : vx_Met l yX3_setFaults wsX3_setFaults ({ frames := 7, cells := 3, slots := 18, locals := 116 } : Room) (sPz D B (CW D ad κ) sz ([.ref (ad 0), .int f, .int c1, .int v] : List Value)) (va_Qi (S := Unit) (fun rr _ => ((500 ≤ f ∧ f ≤ 1500) ∧ ((-20) ≤ c1 ∧ c1 ≤ 20) ∧ ((-20) ≤ v ∧ v ≤ 20)) ∧ rr = κ 0 1) (fun _ t => va_P D.1 vwCl (CW D ad (kAll (kF κ f c1 v) n)) t.heap) (rA 68 ad sz)) (sX (fun E => E = E_A ∧ ¬ ((500 ≤ f ∧ f ≤ 1500) ∧ ((-20) ≤ c1 ∧ c1 ≤ 20) ∧ ((-20) ≤ v ∧ v ≤ 20)))) 3 18 (rA 68 ad sz) := by
  refine s_headX (cc := cX3_setFaults) (maxL := 5) (ret := (some .int)) (by decide +kernel) rfl (Nat.le_of_ble_eq_true rfl) ?_
  intro p e s m below meth c hx hb hr hlk hml hown hno hts hB0 ls hl
  obtain ⟨hsz, hJ⟩ := hB0
  have hown : s.vm.findClass RX3 = some m.cls := hown
  have hl : lv_has ls 5 [(0, .ref (ad 0)), (1, .int f), (2, .int c1), (3, .int v)] := hl
  subst hsz
  have hS := sS.start hJ (CW_adr D ad κ)
  have k37 : (Cond.fieldLink RX3 37 "SailLog" "factor" "I").before ([.ref (ad 0), .int f, .int c1, .int v] : List Value).toArray s = true := hts _ (by decide +kernel)
  have i3 : ∀ w ∈ wsX30, w ∈ wsX3_setFaults := by decide +kernel
  have k87 : (Cond.fieldLink RX3 87 "SailLog" "compass" "I").before ([.ref (ad 0), .int f, .int c1, .int v] : List Value).toArray s = true := hts _ (by decide +kernel)
  have k90 : (Cond.fieldLink RX3 90 "SailLog" "vane" "I").before ([.ref (ad 0), .int f, .int c1, .int v] : List Value).toArray s = true := hts _ (by decide +kernel)
  refine lv_iload_n hx hb dX3_setFaults_0 rfl (lv_at hl 1 rfl) ?_
  refine lv_sipush (v := 500) hx hb dX3_setFaults_1 (by decide +kernel) ?_
  refine lv_sipush (v := 1500) hx hb dX3_setFaults_4 (by decide +kernel) ?_
  refine s_ciS (As := [.int f, .int 500, .int 1500]) (rest := []) ⟨hx, hb, hml, hown, hts⟩ (c_X3_isWithin l f 500 1500 ) (va_cwS 3 hts gX3_setFaults_X3_isWithin rfl rfl rfl hdS_X3_isWithin ⟨Nat.le_of_ble_eq_true rfl, Nat.le_of_ble_eq_true rfl⟩) sPS0 rfl hl.1 rfl (Nat.le_of_ble_eq_true rfl) dX3_setFaults_7 ⟨Nat.le_of_ble_eq_true rfl, Nat.le_of_ble_eq_true rfl⟩ ?_
  refine s_xvS (As := [.int (bI (500 ≤ f ∧ f ≤ 1500))]) (rest := []) ⟨hx, hb, hml, hown, hts⟩ (c_X3_checkArgument l hfl D B ad κ (bI (500 ≤ f ∧ f ≤ 1500)) ) (va_cwS 1 hts gX3_setFaults_X3_checkArgument rfl rfl rfl hdS_X3_checkArgument ⟨Nat.le_of_ble_eq_true rfl, Nat.le_of_ble_eq_true rfl⟩) (sPS hS.1) rfl hl.1 rfl (Nat.le_of_ble_eq_true rfl) dX3_setFaults_10 ⟨Nat.le_of_ble_eq_true rfl, Nat.le_of_ble_eq_true rfl⟩ hno hlk (fun E h => ⟨h.1, fun q => bI_0.mp h.2 q.1⟩) (Nat.le_of_ble_eq_true rfl) (Nat.le_of_ble_eq_true rfl) (fun c10 => ?_)
  replace c10 := bI_n0.mp c10
  refine lv_iload_n hx hb dX3_setFaults_13 rfl (lv_at hl 2 rfl) ?_
  refine lv_bipush (v := (-20)) hx hb dX3_setFaults_14 (by decide +kernel) ?_
  refine lv_bipush (v := 20) hx hb dX3_setFaults_16 (by decide +kernel) ?_
  refine s_ciS (As := [.int c1, .int (-20), .int 20]) (rest := []) ⟨hx, hb, hml, hown, hts⟩ (c_X3_isWithin l c1 (-20) 20 ) (va_cwS 3 hts gX3_setFaults_X3_isWithin rfl rfl rfl hdS_X3_isWithin ⟨Nat.le_of_ble_eq_true rfl, Nat.le_of_ble_eq_true rfl⟩) sPS0 rfl hl.1 rfl (Nat.le_of_ble_eq_true rfl) dX3_setFaults_18 ⟨Nat.le_of_ble_eq_true rfl, Nat.le_of_ble_eq_true rfl⟩ ?_
  refine s_xvS (As := [.int (bI ((-20) ≤ c1 ∧ c1 ≤ 20))]) (rest := []) ⟨hx, hb, hml, hown, hts⟩ (c_X3_checkArgument l hfl D B ad κ (bI ((-20) ≤ c1 ∧ c1 ≤ 20)) ) (va_cwS 1 hts gX3_setFaults_X3_checkArgument rfl rfl rfl hdS_X3_checkArgument ⟨Nat.le_of_ble_eq_true rfl, Nat.le_of_ble_eq_true rfl⟩) (sPS hS.1) rfl hl.1 rfl (Nat.le_of_ble_eq_true rfl) dX3_setFaults_21 ⟨Nat.le_of_ble_eq_true rfl, Nat.le_of_ble_eq_true rfl⟩ hno hlk (fun E h => ⟨h.1, fun q => bI_0.mp h.2 q.2.1⟩) (Nat.le_of_ble_eq_true rfl) (Nat.le_of_ble_eq_true rfl) (fun c21 => ?_)
  replace c21 := bI_n0.mp c21
  refine lv_iload_n hx hb dX3_setFaults_24 rfl (lv_at hl 3 rfl) ?_
  refine lv_bipush (v := (-20)) hx hb dX3_setFaults_25 (by decide +kernel) ?_
  refine lv_bipush (v := 20) hx hb dX3_setFaults_27 (by decide +kernel) ?_
  refine s_ciS (As := [.int v, .int (-20), .int 20]) (rest := []) ⟨hx, hb, hml, hown, hts⟩ (c_X3_isWithin l v (-20) 20 ) (va_cwS 3 hts gX3_setFaults_X3_isWithin rfl rfl rfl hdS_X3_isWithin ⟨Nat.le_of_ble_eq_true rfl, Nat.le_of_ble_eq_true rfl⟩) sPS0 rfl hl.1 rfl (Nat.le_of_ble_eq_true rfl) dX3_setFaults_29 ⟨Nat.le_of_ble_eq_true rfl, Nat.le_of_ble_eq_true rfl⟩ ?_
  refine s_xvS (As := [.int (bI ((-20) ≤ v ∧ v ≤ 20))]) (rest := []) ⟨hx, hb, hml, hown, hts⟩ (c_X3_checkArgument l hfl D B ad κ (bI ((-20) ≤ v ∧ v ≤ 20)) ) (va_cwS 1 hts gX3_setFaults_X3_checkArgument rfl rfl rfl hdS_X3_checkArgument ⟨Nat.le_of_ble_eq_true rfl, Nat.le_of_ble_eq_true rfl⟩) (sPS hS.1) rfl hl.1 rfl (Nat.le_of_ble_eq_true rfl) dX3_setFaults_32 ⟨Nat.le_of_ble_eq_true rfl, Nat.le_of_ble_eq_true rfl⟩ hno hlk (fun E h => ⟨h.1, fun q => bI_0.mp h.2 q.2.2⟩) (Nat.le_of_ble_eq_true rfl) (Nat.le_of_ble_eq_true rfl) (fun c32 => ?_)
  replace c32 := bI_n0.mp c32
  refine lv_aload_n hx hb dX3_setFaults_35 rfl (lv_at hl 0 rfl) ?_
  refine g3_6 hx hb hts i3 hown hS.1 k37 dX3_setFaults_36 ?_
  refine lv_istore (lv' := [(4, .int (κ 0 1)), (0, .ref (ad 0)), (1, .int f), (2, .int c1), (3, .int v)]) hx hb dX3_setFaults_39 hl (by decide) rfl (fun ls hl => ?_)
  refine lv_aload_n hx hb dX3_setFaults_41 rfl (lv_at hl 1 rfl) ?_
  refine lv_iload_n hx hb dX3_setFaults_42 rfl (lv_at hl 2 rfl) ?_
  refine p3_6 hx hb hts i3 hown hS k37 dX3_setFaults_43 (fun H locs hS => ?_)
  refine lv_aload_n hx hb dX3_setFaults_46 rfl (lv_at hl 1 rfl) ?_
  refine lv_iload_n hx hb dX3_setFaults_47 rfl (lv_at hl 3 rfl) ?_
  refine p3_7 hx hb hts i3 hown hS k87 dX3_setFaults_48 (fun H locs hS => ?_)
  refine lv_aload_n hx hb dX3_setFaults_51 rfl (lv_at hl 1 rfl) ?_
  refine lv_iload_n hx hb dX3_setFaults_52 rfl (lv_at hl 4 rfl) ?_
  refine p3_8 hx hb hts i3 hown hS k90 dX3_setFaults_53 (fun H locs hS => ?_)
  rw [show kset (kset (kset κ 0 1 f) 0 2 c1) 0 3 v = kF κ f c1 v from rfl] at hS
  refine lv_aload_n hx hb dX3_setFaults_56 rfl (lv_at hl 1 rfl) ?_
  refine s_mvV (wd' := (CW D ad (kAll (kF κ f c1 v) n))) (As := []) (rest := []) ⟨hx, hb, hml, hown, hts⟩ (c_X3_reckonAll l D B ad (kF κ f c1 v) H.size n (by rw [show kF κ f c1 v 0 0 = κ 0 0 by simp [kF, kset]]; exact hn9) (hn60) (fun i hi => ⟨(hok i hi).1, (hok i hi).2, by rw [show kF κ f c1 v 0 1 = f by simp [kF, kset]]; exact c10⟩)) (cwV 0 hts gX3_setFaults_X3_reckonAll rfl rfl rfl hdV_X3_reckonAll ⟨Nat.le_of_ble_eq_true rfl, Nat.le_of_ble_eq_true rfl⟩) (sPVz hS.1 (ci := 3) (q0 := 0) rfl rfl) hS (CW_adr _ _ _) (CW_adr _ _ _) rfl hl.1 rfl (Nat.le_of_ble_eq_true rfl) dX3_setFaults_57 ⟨Nat.le_of_ble_eq_true rfl, Nat.le_of_ble_eq_true rfl⟩ (fun H locs hS => ?_)
  refine lv_iload hx hb dX3_setFaults_60 (lv_at hl 0 rfl) ?_
  exact s_xmret hx hb hr hlk dX3_setFaults_62 (⟨c10, c21, c32⟩) (rfl) hS (Nat.le_of_ble_eq_true rfl) (Nat.le_of_ble_eq_true rfl)
set_option maxRecDepth 100000 in
set_option maxHeartbeats 4000000 in
theorem c_X3_setTide (l : Launch) (hfl : l.flags = flags0) (D : sD) (B : Nat) (ad : Nat → Nat) (κ : sQ) (sz : Nat) (h : Int32) (d : Int32) (r9 : Int32) : vx_Met l yX3_setTide wsX3_setTide ({ frames := 7, cells := 3, slots := 18, locals := 102 } : Room) (sPz D B (CW D ad κ) sz ([.ref (ad 0), .int h, .int d, .int r9] : List Value)) (va_Qi (S := Unit) (fun rr _ => ((0 ≤ h ∧ h ≤ 23) ∧ (0 ≤ d ∧ d ≤ 359) ∧ (0 ≤ r9 ∧ r9 ≤ 100)) ∧ rr = κ 3 (iN h)) (fun _ t => va_P D.1 vwCl (CW D ad (kset (kset κ 2 (iN h) d) 3 (iN h) r9)) t.heap) (rA 68 ad sz)) (sX (fun E => (E = E_I ∧ ¬ (0 ≤ h ∧ h ≤ 23)) ∨ (E = E_A ∧ (0 ≤ h ∧ h ≤ 23) ∧ ¬ ((0 ≤ d ∧ d ≤ 359) ∧ (0 ≤ r9 ∧ r9 ≤ 100))))) 3 18 (rA 68 ad sz) := by
  refine s_headX (cc := cX3_setTide) (maxL := 5) (ret := (some .int)) (by decide +kernel) rfl (Nat.le_of_ble_eq_true rfl) ?_
  intro p e s m below meth c hx hb hr hlk hml hown hno hts hB0 ls hl
  obtain ⟨hsz, hJ⟩ := hB0
  have hown : s.vm.findClass RX3 = some m.cls := hown
  have hl : lv_has ls 5 [(0, .ref (ad 0)), (1, .int h), (2, .int d), (3, .int r9)] := hl
  subst hsz
  have hS := sS.start hJ (CW_adr D ad κ)
  have k34 : (Cond.fieldLink RX3 34 "SailLog" "tideDrifts" "[I").before ([.ref (ad 0), .int h, .int d, .int r9] : List Value).toArray s = true := hts _ (by decide +kernel)
  have i3 : ∀ w ∈ wsX30, w ∈ wsX3_setTide := by decide +kernel
  have k30 : (Cond.fieldLink RX3 30 "SailLog" "tideDirections" "[I").before ([.ref (ad 0), .int h, .int d, .int r9] : List Value).toArray s = true := hts _ (by decide +kernel)
  refine lv_iload_n hx hb dX3_setTide_0 rfl (lv_at hl 1 rfl) ?_
  refine lv_iconst (v := 0) hx hb dX3_setTide_1 (by decide +kernel) ?_
  refine lv_bipush (v := 23) hx hb dX3_setTide_2 (by decide +kernel) ?_
  refine s_ciS (As := [.int h, .int 0, .int 23]) (rest := []) ⟨hx, hb, hml, hown, hts⟩ (c_X3_isWithin l h 0 23 ) (va_cwS 3 hts gX3_setTide_X3_isWithin rfl rfl rfl hdS_X3_isWithin ⟨Nat.le_of_ble_eq_true rfl, Nat.le_of_ble_eq_true rfl⟩) sPS0 rfl hl.1 rfl (Nat.le_of_ble_eq_true rfl) dX3_setTide_4 ⟨Nat.le_of_ble_eq_true rfl, Nat.le_of_ble_eq_true rfl⟩ ?_
  refine lv_if_ne (tgt := 20) hx hb dX3_setTide_7 (by decide) (fun c7 => ?_) (fun c7 => ?_)
  ·
    replace c7 := bI_n0.mp c7
    refine lv_iload_n hx hb dX3_setTide_20 rfl (lv_at hl 2 rfl) ?_
    refine s_ciS (As := [.int d]) (rest := []) ⟨hx, hb, hml, hown, hts⟩ (c_X3_isDirection l d ) (va_cwS 1 hts gX3_setTide_X3_isDirection rfl rfl rfl hdS_X3_isDirection ⟨Nat.le_of_ble_eq_true rfl, Nat.le_of_ble_eq_true rfl⟩) sPS0 rfl hl.1 rfl (Nat.le_of_ble_eq_true rfl) dX3_setTide_21 ⟨Nat.le_of_ble_eq_true rfl, Nat.le_of_ble_eq_true rfl⟩ ?_
    refine s_xvS (As := [.int (bI (0 ≤ d ∧ d ≤ 359))]) (rest := []) ⟨hx, hb, hml, hown, hts⟩ (c_X3_checkArgument l hfl D B ad κ (bI (0 ≤ d ∧ d ≤ 359)) ) (va_cwS 1 hts gX3_setTide_X3_checkArgument rfl rfl rfl hdS_X3_checkArgument ⟨Nat.le_of_ble_eq_true rfl, Nat.le_of_ble_eq_true rfl⟩) (sPS hS.1) rfl hl.1 rfl (Nat.le_of_ble_eq_true rfl) dX3_setTide_24 ⟨Nat.le_of_ble_eq_true rfl, Nat.le_of_ble_eq_true rfl⟩ hno hlk (fun E h => Or.inr ⟨h.1, c7, fun q => bI_0.mp h.2 q.1⟩) (Nat.le_of_ble_eq_true rfl) (Nat.le_of_ble_eq_true rfl) (fun c24 => ?_)
    replace c24 := bI_n0.mp c24
    refine lv_iload_n hx hb dX3_setTide_27 rfl (lv_at hl 3 rfl) ?_
    refine lv_iconst (v := 0) hx hb dX3_setTide_28 (by decide +kernel) ?_
    refine lv_bipush (v := 100) hx hb dX3_setTide_29 (by decide +kernel) ?_
    refine s_ciS (As := [.int r9, .int 0, .int 100]) (rest := []) ⟨hx, hb, hml, hown, hts⟩ (c_X3_isWithin l r9 0 100 ) (va_cwS 3 hts gX3_setTide_X3_isWithin rfl rfl rfl hdS_X3_isWithin ⟨Nat.le_of_ble_eq_true rfl, Nat.le_of_ble_eq_true rfl⟩) sPS0 rfl hl.1 rfl (Nat.le_of_ble_eq_true rfl) dX3_setTide_31 ⟨Nat.le_of_ble_eq_true rfl, Nat.le_of_ble_eq_true rfl⟩ ?_
    refine s_xvS (As := [.int (bI (0 ≤ r9 ∧ r9 ≤ 100))]) (rest := []) ⟨hx, hb, hml, hown, hts⟩ (c_X3_checkArgument l hfl D B ad κ (bI (0 ≤ r9 ∧ r9 ≤ 100)) ) (va_cwS 1 hts gX3_setTide_X3_checkArgument rfl rfl rfl hdS_X3_checkArgument ⟨Nat.le_of_ble_eq_true rfl, Nat.le_of_ble_eq_true rfl⟩) (sPS hS.1) rfl hl.1 rfl (Nat.le_of_ble_eq_true rfl) dX3_setTide_34 ⟨Nat.le_of_ble_eq_true rfl, Nat.le_of_ble_eq_true rfl⟩ hno hlk (fun E h => Or.inr ⟨h.1, c7, fun q => bI_0.mp h.2 q.2⟩) (Nat.le_of_ble_eq_true rfl) (Nat.le_of_ble_eq_true rfl) (fun c34 => ?_)
    replace c34 := bI_n0.mp c34
    obtain ⟨eh, hh24⟩ := rng_ok 23 (by decide +kernel) (by omega) c7
    refine lv_aload_n hx hb dX3_setTide_37 rfl (lv_at hl 0 rfl) ?_
    refine g3_4 hx hb hts i3 hown hS.1 k34 dX3_setTide_38 ?_
    refine lv_iload_n hx hb dX3_setTide_41 rfl (lv_at hl 1 rfl) ?_
    refine a_dri (k := iN h) hx hb hS.1 (eh) (by omega) dX3_setTide_42 ?_
    refine lv_istore (lv' := [(4, .int (κ 3 (iN h))), (0, .ref (ad 0)), (1, .int h), (2, .int d), (3, .int r9)]) hx hb dX3_setTide_43 hl (by decide) rfl (fun ls hl => ?_)
    refine lv_aload_n hx hb dX3_setTide_45 rfl (lv_at hl 1 rfl) ?_
    refine g3_3 hx hb hts i3 hown hS.1 k30 dX3_setTide_46 ?_
    refine lv_iload_n hx hb dX3_setTide_49 rfl (lv_at hl 2 rfl) ?_
    refine lv_iload_n hx hb dX3_setTide_50 rfl (lv_at hl 3 rfl) ?_
    refine t_dir (k := iN h) hx hb hS (eh) (by omega) dX3_setTide_51 (fun H locs hS => ?_)
    refine lv_aload_n hx hb dX3_setTide_52 rfl (lv_at hl 1 rfl) ?_
    refine g3_4 hx hb hts i3 hown hS.1 k34 dX3_setTide_53 ?_
    refine lv_iload_n hx hb dX3_setTide_56 rfl (lv_at hl 2 rfl) ?_
    refine lv_iload_n hx hb dX3_setTide_57 rfl (lv_at hl 4 rfl) ?_
    refine t_dri (k := iN h) hx hb hS (eh) (by omega) dX3_setTide_58 (fun H locs hS => ?_)
    refine lv_iload hx hb dX3_setTide_59 (lv_at hl 0 rfl) ?_
    exact s_xmret hx hb hr hlk dX3_setTide_61 (⟨c7, c24, c34⟩) (rfl) hS (Nat.le_of_ble_eq_true rfl) (Nat.le_of_ble_eq_true rfl)
  ·
    replace c7 := bI_0.mp c7
    refine s_throw (text := "there is no such hour") (cls := "java/lang/IndexOutOfBoundsException") (ik := 96) (is := 98) (ic := 100) (names := ["java/lang/RuntimeException", "java/lang/Exception"]) hx hb hfl hown (by decide +kernel) (by decide +kernel) (hts _ (by decide +kernel)) (hts _ (by decide +kernel)) (hS.1.2.2.2.1.2.2.1.2.2.2.1) (fun w h => hts w (by first | exact List.mem_cons_of_mem _ (List.mem_append_right _ h) | exact List.mem_cons_of_mem _ (List.mem_append_left _ (List.mem_append_right _ h)) | exact List.mem_cons_of_mem _ h)) (by decide +kernel) (by decide +kernel) (hS.1.2.2.2.1.2.2.2.2.2.2.2.1) (hS.1.2.2.2.1.2.2.2) hS.1.2.2.2.2 (hl.1.trans hml.symm) dX3_setTide_10 dX3_setTide_13 dX3_setTide_14 dX3_setTide_16 dX3_setTide_19 hno (Nat.le_of_ble_eq_true rfl) (Nat.le_of_ble_eq_true rfl) hlk (Or.inl ⟨rfl, c7⟩) ⟨Nat.le_of_ble_eq_true rfl, Nat.le_of_ble_eq_true rfl⟩ ⟨Nat.le_of_ble_eq_true rfl, Nat.le_of_ble_eq_true rfl⟩
set_option maxRecDepth 100000 in
set_option maxHeartbeats 4000000 in
theorem c_X3_log (l : Launch) (hfl : l.flags = flags0) (D : sD) (B : Nat) (ad : Nat → Nat) (κ : sQ) (sz : Nat) (x1 : Int32) (x2 : Int32) (x3 : Int32) (x4 : Int32) (x5 : Int32) (n : Nat) (hn9 : κ 0 0 = nI n) (hn60 : n ≤ 60) (hfa : 500 ≤ κ 0 1 ∧ κ 0 1 ≤ 1500) : vx_Met l yX3_log wsX3_log ({ frames := 7, cells := 6, slots := 36, locals := 102 } : Room) (sPz D B (CW D ad κ) sz ([.ref (ad 0), .int x1, .int x2, .int x3, .int x4, .int x5] : List Value)) (va_Qi (S := Unit) (fun rr _ => (((0 ≤ x1 ∧ x1 ≤ 1439) ∧ (0 ≤ x2 ∧ x2 ≤ 300) ∧ (0 ≤ x3 ∧ x3 ≤ 359) ∧ (0 ≤ x4 ∧ x4 ≤ 600) ∧ (0 ≤ x5 ∧ x5 ≤ 359)) ∧ (n < 60 ∧ (n = 0 ∨ κ 4 (n - 1) < x1))) ∧ rr = nI n) (fun _ t => va_P D.1 vwCl (CW D ad (kLog κ n x1 x2 x3 x4 x5)) t.heap) (rA 68 ad sz)) (sX (fun E => (E = E_A ∧ ¬ ((0 ≤ x1 ∧ x1 ≤ 1439) ∧ (0 ≤ x2 ∧ x2 ≤ 300) ∧ (0 ≤ x3 ∧ x3 ≤ 359) ∧ (0 ≤ x4 ∧ x4 ≤ 600) ∧ (0 ≤ x5 ∧ x5 ≤ 359))) ∨ (E = E_S ∧ ((0 ≤ x1 ∧ x1 ≤ 1439) ∧ (0 ≤ x2 ∧ x2 ≤ 300) ∧ (0 ≤ x3 ∧ x3 ≤ 359) ∧ (0 ≤ x4 ∧ x4 ≤ 600) ∧ (0 ≤ x5 ∧ x5 ≤ 359)) ∧ ¬ (n < 60 ∧ (n = 0 ∨ κ 4 (n - 1) < x1))))) 6 36 (rA 68 ad sz) := by
  refine s_headX (cc := cX3_log) (maxL := 7) (ret := (some .int)) (by decide +kernel) rfl (Nat.le_of_ble_eq_true rfl) ?_
  intro p e s m below meth c hx hb hr hlk hml hown hno hts hB0 ls hl
  obtain ⟨hsz, hJ⟩ := hB0
  have hown : s.vm.findClass RX3 = some m.cls := hown
  have hl : lv_has ls 7 [(0, .ref (ad 0)), (1, .int x1), (2, .int x2), (3, .int x3), (4, .int x4), (5, .int x5)] := hl
  subst hsz
  have hS := sS.start hJ (CW_adr D ad κ)
  have k53 : (Cond.fieldLink RX3 53 "SailLog" "count" "I").before ([.ref (ad 0), .int x1, .int x2, .int x3, .int x4, .int x5] : List Value).toArray s = true := hts _ (by decide +kernel)
  have i3 : ∀ w ∈ wsX30, w ∈ wsX3_log := by decide +kernel
  have k18 : (Cond.fieldLink RX3 18 "SailLog" "logged" "[LSailLog$Entry;").before ([.ref (ad 0), .int x1, .int x2, .int x3, .int x4, .int x5] : List Value).toArray s = true := hts _ (by decide +kernel)
  have k63 : (Cond.fieldLink RX3 63 "SailLog$Entry" "minute" "I").before ([.ref (ad 0), .int x1, .int x2, .int x3, .int x4, .int x5] : List Value).toArray s = true := hts _ (by decide +kernel)
  have i2 : ∀ w ∈ wsX20, w ∈ wsX3_log := by decide +kernel
  have k68 : (Cond.fieldLink RX3 68 "SailLog$Entry" "toldSpeed" "I").before ([.ref (ad 0), .int x1, .int x2, .int x3, .int x4, .int x5] : List Value).toArray s = true := hts _ (by decide +kernel)
  have k71 : (Cond.fieldLink RX3 71 "SailLog$Entry" "toldHeading" "I").before ([.ref (ad 0), .int x1, .int x2, .int x3, .int x4, .int x5] : List Value).toArray s = true := hts _ (by decide +kernel)
  have k74 : (Cond.fieldLink RX3 74 "SailLog$Entry" "toldStrength" "I").before ([.ref (ad 0), .int x1, .int x2, .int x3, .int x4, .int x5] : List Value).toArray s = true := hts _ (by decide +kernel)
  have k77 : (Cond.fieldLink RX3 77 "SailLog$Entry" "toldAngle" "I").before ([.ref (ad 0), .int x1, .int x2, .int x3, .int x4, .int x5] : List Value).toArray s = true := hts _ (by decide +kernel)
  have k26 : (Cond.fieldLink RX3 26 "SailLog" "bestSpeeds" "LSailLog$BestSpeeds;").before ([.ref (ad 0), .int x1, .int x2, .int x3, .int x4, .int x5] : List Value).toArray s = true := hts _ (by decide +kernel)
  refine lv_iload_n hx hb dX3_log_0 rfl (lv_at hl 1 rfl) ?_
  refine lv_iconst (v := 0) hx hb dX3_log_1 (by decide +kernel) ?_
  refine lv_sipush (v := 1439) hx hb dX3_log_2 (by decide +kernel) ?_
  refine s_ciS (As := [.int x1, .int 0, .int 1439]) (rest := []) ⟨hx, hb, hml, hown, hts⟩ (c_X3_isWithin l x1 0 1439 ) (va_cwS 3 hts gX3_log_X3_isWithin rfl rfl rfl hdS_X3_isWithin ⟨Nat.le_of_ble_eq_true rfl, Nat.le_of_ble_eq_true rfl⟩) sPS0 rfl hl.1 rfl (Nat.le_of_ble_eq_true rfl) dX3_log_5 ⟨Nat.le_of_ble_eq_true rfl, Nat.le_of_ble_eq_true rfl⟩ ?_
  refine s_xvS (As := [.int (bI (0 ≤ x1 ∧ x1 ≤ 1439))]) (rest := []) ⟨hx, hb, hml, hown, hts⟩ (c_X3_checkArgument l hfl D B ad κ (bI (0 ≤ x1 ∧ x1 ≤ 1439)) ) (va_cwS 1 hts gX3_log_X3_checkArgument rfl rfl rfl hdS_X3_checkArgument ⟨Nat.le_of_ble_eq_true rfl, Nat.le_of_ble_eq_true rfl⟩) (sPS hS.1) rfl hl.1 rfl (Nat.le_of_ble_eq_true rfl) dX3_log_8 ⟨Nat.le_of_ble_eq_true rfl, Nat.le_of_ble_eq_true rfl⟩ hno hlk (fun E h => Or.inl ⟨h.1, fun q => bI_0.mp h.2 q.1⟩) (Nat.le_of_ble_eq_true rfl) (Nat.le_of_ble_eq_true rfl) (fun c8 => ?_)
  replace c8 := bI_n0.mp c8
  refine lv_iload_n hx hb dX3_log_11 rfl (lv_at hl 2 rfl) ?_
  refine lv_iconst (v := 0) hx hb dX3_log_12 (by decide +kernel) ?_
  refine lv_sipush (v := 300) hx hb dX3_log_13 (by decide +kernel) ?_
  refine s_ciS (As := [.int x2, .int 0, .int 300]) (rest := []) ⟨hx, hb, hml, hown, hts⟩ (c_X3_isWithin l x2 0 300 ) (va_cwS 3 hts gX3_log_X3_isWithin rfl rfl rfl hdS_X3_isWithin ⟨Nat.le_of_ble_eq_true rfl, Nat.le_of_ble_eq_true rfl⟩) sPS0 rfl hl.1 rfl (Nat.le_of_ble_eq_true rfl) dX3_log_16 ⟨Nat.le_of_ble_eq_true rfl, Nat.le_of_ble_eq_true rfl⟩ ?_
  refine s_xvS (As := [.int (bI (0 ≤ x2 ∧ x2 ≤ 300))]) (rest := []) ⟨hx, hb, hml, hown, hts⟩ (c_X3_checkArgument l hfl D B ad κ (bI (0 ≤ x2 ∧ x2 ≤ 300)) ) (va_cwS 1 hts gX3_log_X3_checkArgument rfl rfl rfl hdS_X3_checkArgument ⟨Nat.le_of_ble_eq_true rfl, Nat.le_of_ble_eq_true rfl⟩) (sPS hS.1) rfl hl.1 rfl (Nat.le_of_ble_eq_true rfl) dX3_log_19 ⟨Nat.le_of_ble_eq_true rfl, Nat.le_of_ble_eq_true rfl⟩ hno hlk (fun E h => Or.inl ⟨h.1, fun q => bI_0.mp h.2 q.2.1⟩) (Nat.le_of_ble_eq_true rfl) (Nat.le_of_ble_eq_true rfl) (fun c19 => ?_)
  replace c19 := bI_n0.mp c19
  refine lv_iload_n hx hb dX3_log_22 rfl (lv_at hl 3 rfl) ?_
  refine s_ciS (As := [.int x3]) (rest := []) ⟨hx, hb, hml, hown, hts⟩ (c_X3_isDirection l x3 ) (va_cwS 1 hts gX3_log_X3_isDirection rfl rfl rfl hdS_X3_isDirection ⟨Nat.le_of_ble_eq_true rfl, Nat.le_of_ble_eq_true rfl⟩) sPS0 rfl hl.1 rfl (Nat.le_of_ble_eq_true rfl) dX3_log_23 ⟨Nat.le_of_ble_eq_true rfl, Nat.le_of_ble_eq_true rfl⟩ ?_
  refine s_xvS (As := [.int (bI (0 ≤ x3 ∧ x3 ≤ 359))]) (rest := []) ⟨hx, hb, hml, hown, hts⟩ (c_X3_checkArgument l hfl D B ad κ (bI (0 ≤ x3 ∧ x3 ≤ 359)) ) (va_cwS 1 hts gX3_log_X3_checkArgument rfl rfl rfl hdS_X3_checkArgument ⟨Nat.le_of_ble_eq_true rfl, Nat.le_of_ble_eq_true rfl⟩) (sPS hS.1) rfl hl.1 rfl (Nat.le_of_ble_eq_true rfl) dX3_log_26 ⟨Nat.le_of_ble_eq_true rfl, Nat.le_of_ble_eq_true rfl⟩ hno hlk (fun E h => Or.inl ⟨h.1, fun q => bI_0.mp h.2 q.2.2.1⟩) (Nat.le_of_ble_eq_true rfl) (Nat.le_of_ble_eq_true rfl) (fun c26 => ?_)
  replace c26 := bI_n0.mp c26
  refine lv_iload hx hb dX3_log_29 (lv_at hl 4 rfl) ?_
  refine lv_iconst (v := 0) hx hb dX3_log_31 (by decide +kernel) ?_
  refine lv_sipush (v := 600) hx hb dX3_log_32 (by decide +kernel) ?_
  refine s_ciS (As := [.int x4, .int 0, .int 600]) (rest := []) ⟨hx, hb, hml, hown, hts⟩ (c_X3_isWithin l x4 0 600 ) (va_cwS 3 hts gX3_log_X3_isWithin rfl rfl rfl hdS_X3_isWithin ⟨Nat.le_of_ble_eq_true rfl, Nat.le_of_ble_eq_true rfl⟩) sPS0 rfl hl.1 rfl (Nat.le_of_ble_eq_true rfl) dX3_log_35 ⟨Nat.le_of_ble_eq_true rfl, Nat.le_of_ble_eq_true rfl⟩ ?_
  refine s_xvS (As := [.int (bI (0 ≤ x4 ∧ x4 ≤ 600))]) (rest := []) ⟨hx, hb, hml, hown, hts⟩ (c_X3_checkArgument l hfl D B ad κ (bI (0 ≤ x4 ∧ x4 ≤ 600)) ) (va_cwS 1 hts gX3_log_X3_checkArgument rfl rfl rfl hdS_X3_checkArgument ⟨Nat.le_of_ble_eq_true rfl, Nat.le_of_ble_eq_true rfl⟩) (sPS hS.1) rfl hl.1 rfl (Nat.le_of_ble_eq_true rfl) dX3_log_38 ⟨Nat.le_of_ble_eq_true rfl, Nat.le_of_ble_eq_true rfl⟩ hno hlk (fun E h => Or.inl ⟨h.1, fun q => bI_0.mp h.2 q.2.2.2.1⟩) (Nat.le_of_ble_eq_true rfl) (Nat.le_of_ble_eq_true rfl) (fun c38 => ?_)
  replace c38 := bI_n0.mp c38
  refine lv_iload hx hb dX3_log_41 (lv_at hl 5 rfl) ?_
  refine s_ciS (As := [.int x5]) (rest := []) ⟨hx, hb, hml, hown, hts⟩ (c_X3_isDirection l x5 ) (va_cwS 1 hts gX3_log_X3_isDirection rfl rfl rfl hdS_X3_isDirection ⟨Nat.le_of_ble_eq_true rfl, Nat.le_of_ble_eq_true rfl⟩) sPS0 rfl hl.1 rfl (Nat.le_of_ble_eq_true rfl) dX3_log_43 ⟨Nat.le_of_ble_eq_true rfl, Nat.le_of_ble_eq_true rfl⟩ ?_
  refine s_xvS (As := [.int (bI (0 ≤ x5 ∧ x5 ≤ 359))]) (rest := []) ⟨hx, hb, hml, hown, hts⟩ (c_X3_checkArgument l hfl D B ad κ (bI (0 ≤ x5 ∧ x5 ≤ 359)) ) (va_cwS 1 hts gX3_log_X3_checkArgument rfl rfl rfl hdS_X3_checkArgument ⟨Nat.le_of_ble_eq_true rfl, Nat.le_of_ble_eq_true rfl⟩) (sPS hS.1) rfl hl.1 rfl (Nat.le_of_ble_eq_true rfl) dX3_log_46 ⟨Nat.le_of_ble_eq_true rfl, Nat.le_of_ble_eq_true rfl⟩ hno hlk (fun E h => Or.inl ⟨h.1, fun q => bI_0.mp h.2 q.2.2.2.2⟩) (Nat.le_of_ble_eq_true rfl) (Nat.le_of_ble_eq_true rfl) (fun c46 => ?_)
  replace c46 := bI_n0.mp c46
  refine lv_aload_n hx hb dX3_log_49 rfl (lv_at hl 0 rfl) ?_
  refine g3_5 hx hb hts i3 hown hS.1 k53 dX3_log_50 ?_
  refine lv_bipush (v := 60) hx hb dX3_log_53 (by decide +kernel) ?_
  refine lv_icmp_lt (tgt := 68) hx hb dX3_log_55 (by decide) (fun c55 => ?_) (fun c55 => ?_)
  ·
    have hn6 : n < 60 := by rw [hn9] at c55; have := (nI_ltI (a := n) (b := 60) (by omega) (by omega)).mp c55; omega
    have j103 : ∀ (hB9 : n = 0 ∨ κ 4 (n - 1) < x1) (ls : Array Slot), lv_has ls 7 [(0, .ref (ad 0)), (1, .int x1), (2, .int x2), (3, .int x3), (4, .int x4), (5, .int x5)] → W p l e ({ frames := 7, cells := 6, slots := 36, locals := 102 } : Room) s m ([.ref (ad 0), .int x1, .int x2, .int x3, .int x4, .int x5] : List Value).toArray below meth c s.heap [] 5 30 (vx_MQ below (va_Qi (S := Unit) (fun rr _ => (((0 ≤ x1 ∧ x1 ≤ 1439) ∧ (0 ≤ x2 ∧ x2 ≤ 300) ∧ (0 ≤ x3 ∧ x3 ≤ 359) ∧ (0 ≤ x4 ∧ x4 ≤ 600) ∧ (0 ≤ x5 ∧ x5 ≤ 359)) ∧ (n < 60 ∧ (n = 0 ∨ κ 4 (n - 1) < x1))) ∧ rr = nI n) (fun _ t => va_P D.1 vwCl (CW D ad (kLog κ n x1 x2 x3 x4 x5)) t.heap) (rA 68 ad s.heap.size)) (sX (fun E => (E = E_A ∧ ¬ ((0 ≤ x1 ∧ x1 ≤ 1439) ∧ (0 ≤ x2 ∧ x2 ≤ 300) ∧ (0 ≤ x3 ∧ x3 ≤ 359) ∧ (0 ≤ x4 ∧ x4 ≤ 600) ∧ (0 ≤ x5 ∧ x5 ≤ 359))) ∨ (E = E_S ∧ ((0 ≤ x1 ∧ x1 ≤ 1439) ∧ (0 ≤ x2 ∧ x2 ≤ 300) ∧ (0 ≤ x3 ∧ x3 ≤ 359) ∧ (0 ≤ x4 ∧ x4 ≤ 600) ∧ (0 ≤ x5 ∧ x5 ≤ 359)) ∧ ¬ (n < 60 ∧ (n = 0 ∨ κ 4 (n - 1) < x1))))) ([.ref (ad 0), .int x1, .int x2, .int x3, .int x4, .int x5] : List Value).toArray s 6 36 (rA 68 ad s.heap.size)) (F0 m 103 ls []) := by
      intro hB9 ls hl
      refine lv_aload_n hx hb dX3_log_103 rfl (lv_at hl 0 rfl) ?_
      refine g3_1 hx hb hts i3 hown hS.1 k18 dX3_log_104 ?_
      refine lv_aload_n hx hb dX3_log_107 rfl (lv_at hl 0 rfl) ?_
      refine g3_5 hx hb hts i3 hown hS.1 k53 dX3_log_108 ?_
      refine a_log (k := n) hx hb hS.1 (hn9) (by omega) dX3_log_111 ?_
      refine lv_astore (lv' := [(6, .ref (ad (8 + n))), (0, .ref (ad 0)), (1, .int x1), (2, .int x2), (3, .int x3), (4, .int x4), (5, .int x5)]) hx hb dX3_log_112 hl (by decide) rfl (fun ls hl => ?_)
      refine lv_aload hx hb dX3_log_114 (lv_at hl 0 rfl) ?_
      refine lv_iload_n hx hb dX3_log_116 rfl (lv_at hl 2 rfl) ?_
      refine p2_0 (by omega) hx hb hts i2 hown hS k63 dX3_log_117 (fun H locs hS => ?_)
      refine lv_aload hx hb dX3_log_120 (lv_at hl 0 rfl) ?_
      refine lv_iload_n hx hb dX3_log_122 rfl (lv_at hl 3 rfl) ?_
      refine p2_1 (by omega) hx hb hts i2 hown hS k68 dX3_log_123 (fun H locs hS => ?_)
      refine lv_aload hx hb dX3_log_126 (lv_at hl 0 rfl) ?_
      refine lv_iload_n hx hb dX3_log_128 rfl (lv_at hl 4 rfl) ?_
      refine p2_2 (by omega) hx hb hts i2 hown hS k71 dX3_log_129 (fun H locs hS => ?_)
      refine lv_aload hx hb dX3_log_132 (lv_at hl 0 rfl) ?_
      refine lv_iload hx hb dX3_log_134 (lv_at hl 5 rfl) ?_
      refine p2_3 (by omega) hx hb hts i2 hown hS k74 dX3_log_136 (fun H locs hS => ?_)
      refine lv_aload hx hb dX3_log_139 (lv_at hl 0 rfl) ?_
      refine lv_iload hx hb dX3_log_141 (lv_at hl 6 rfl) ?_
      refine p2_4 (by omega) hx hb hts i2 hown hS k77 dX3_log_143 (fun H locs hS => ?_)
      rw [show kset (kset (kset (kset (kset κ 4 n x1) 5 n x2) 6 n x3) 7 n x4) 8 n x5 = kT κ n x1 x2 x3 x4 x5 from rfl] at hS
      refine lv_aload_n hx hb dX3_log_146 rfl (lv_at hl 1 rfl) ?_
      refine lv_aload hx hb dX3_log_147 (lv_at hl 0 rfl) ?_
      refine s_mvV (wd' := (CW D ad (kR (kT κ n x1 x2 x3 x4 x5) n))) (As := [.ref (ad (8 + n))]) (rest := []) ⟨hx, hb, hml, hown, hts⟩ (c_X3_reckon l D B ad (kT κ n x1 x2 x3 x4 x5) H.size n (hn6) (kT_ok c19 c38 hfa)) (cwV 1 hts gX3_log_X3_reckon rfl rfl rfl hdV_X3_reckon ⟨Nat.le_of_ble_eq_true rfl, Nat.le_of_ble_eq_true rfl⟩) (sPVz hS.1 (ci := 3) (q0 := 0) rfl rfl) hS (CW_adr _ _ _) (CW_adr _ _ _) rfl hl.1 rfl (Nat.le_of_ble_eq_true rfl) dX3_log_149 ⟨Nat.le_of_ble_eq_true rfl, Nat.le_of_ble_eq_true rfl⟩ (fun H locs hS => ?_)
      refine lv_aload_n hx hb dX3_log_152 rfl (lv_at hl 1 rfl) ?_
      refine g3_2 hx hb hts i3 hown hS.1 k26 dX3_log_153 ?_
      refine lv_aload hx hb dX3_log_156 (lv_at hl 0 rfl) ?_
      refine s_mvV (wd' := (CW D ad (kset (kR (kT κ n x1 x2 x3 x4 x5) n) 1 ((rN (kR (kT κ n x1 x2 x3 x4 x5) n 12 n)) * 10 + (cN (kR (kT κ n x1 x2 x3 x4 x5) n 11 n))) (if ((kR (kT κ n x1 x2 x3 x4 x5) n) 1 ((rN (kR (kT κ n x1 x2 x3 x4 x5) n 12 n)) * 10 + (cN (kR (kT κ n x1 x2 x3 x4 x5) n 11 n)))) < ((kR (kT κ n x1 x2 x3 x4 x5) n) 9 n) then ((kR (kT κ n x1 x2 x3 x4 x5) n) 9 n) else ((kR (kT κ n x1 x2 x3 x4 x5) n) 1 ((rN (kR (kT κ n x1 x2 x3 x4 x5) n 12 n)) * 10 + (cN (kR (kT κ n x1 x2 x3 x4 x5) n 11 n)))))))) (As := [.ref (ad (8 + n))]) (rest := []) ⟨hx, hb, hml, hown, hts⟩ (c_X0_learn l D B ad (kR (kT κ n x1 x2 x3 x4 x5) n) H.size n (rN (kR (kT κ n x1 x2 x3 x4 x5) n 12 n)) (cN (kR (kT κ n x1 x2 x3 x4 x5) n 11 n)) (hn6) ((kR_row _ n).1) ((kR_row _ n).2) ((kR_col (kT_ok c19 c38 hfa)).1) ((kR_col (kT_ok c19 c38 hfa)).2)) (cwV 1 hts gX3_log_X0_learn rfl rfl rfl hdV_X0_learn ⟨Nat.le_of_ble_eq_true rfl, Nat.le_of_ble_eq_true rfl⟩) (sPVz hS.1 (ci := 0) (q0 := 4) rfl rfl) hS (CW_adr _ _ _) (CW_adr _ _ _) rfl hl.1 rfl (Nat.le_of_ble_eq_true rfl) dX3_log_158 ⟨Nat.le_of_ble_eq_true rfl, Nat.le_of_ble_eq_true rfl⟩ (fun H locs hS => ?_)
      rw [show (kset (kR (kT κ n x1 x2 x3 x4 x5) n) 1 ((rN (kR (kT κ n x1 x2 x3 x4 x5) n 12 n)) * 10 + (cN (kR (kT κ n x1 x2 x3 x4 x5) n 11 n))) (if ((kR (kT κ n x1 x2 x3 x4 x5) n) 1 ((rN (kR (kT κ n x1 x2 x3 x4 x5) n 12 n)) * 10 + (cN (kR (kT κ n x1 x2 x3 x4 x5) n 11 n)))) < ((kR (kT κ n x1 x2 x3 x4 x5) n) 9 n) then ((kR (kT κ n x1 x2 x3 x4 x5) n) 9 n) else ((kR (kT κ n x1 x2 x3 x4 x5) n) 1 ((rN (kR (kT κ n x1 x2 x3 x4 x5) n 12 n)) * 10 + (cN (kR (kT κ n x1 x2 x3 x4 x5) n 11 n)))))) = kL (kR (kT κ n x1 x2 x3 x4 x5) n) n from rfl] at hS
      refine lv_aload_n hx hb dX3_log_161 rfl (lv_at hl 1 rfl) ?_
      refine lv_dup hx hb dX3_log_162 rfl ?_
      refine g3_5 hx hb hts i3 hown hS.1 k53 dX3_log_163 ?_
      refine lv_topi (fun zz ezz => ?_)
      obtain rfl : zz = nI n := ezz.trans ((kLog_00 _ _ _ _ _ _ _).trans hn9)
      refine lv_iconst (v := 1) hx hb dX3_log_166 (by decide +kernel) ?_
      refine lv_iadd hx hb dX3_log_167 ?_
      refine lv_topi (fun zz ezz => ?_)
      obtain rfl : zz = nI (n + 1) := ezz.trans (nI_1 n)
      refine p3_5 hx hb hts i3 hown hS k53 dX3_log_168 (fun H locs hS => ?_)
      refine lv_aload_n hx hb dX3_log_171 rfl (lv_at hl 1 rfl) ?_
      refine g3_5 hx hb hts i3 hown hS.1 k53 dX3_log_172 ?_
      refine lv_topi (fun zz ezz => ?_)
      obtain rfl : zz = nI (n + 1) := ezz.trans (kset_self _ _ _ _)
      refine lv_iconst (v := 1) hx hb dX3_log_175 (by decide +kernel) ?_
      refine lv_isub hx hb dX3_log_176 ?_
      refine lv_topi (fun zz ezz => ?_)
      obtain rfl : zz = nI n := ezz.trans (nI_pred n)
      rw [show (CW D ad (kset (kL (kR (kT κ n x1 x2 x3 x4 x5) n) n) 0 0 (nI (n + 1)))) = (CW D ad (kLog κ n x1 x2 x3 x4 x5)) from rfl] at hS
      exact s_xmret hx hb hr hlk dX3_log_177 (⟨⟨c8, c19, c26, c38, c46⟩, hn6, hB9⟩) (rfl) hS (Nat.le_of_ble_eq_true rfl) (Nat.le_of_ble_eq_true rfl)
    refine lv_aload_n hx hb dX3_log_68 rfl (lv_at hl 0 rfl) ?_
    refine g3_5 hx hb hts i3 hown hS.1 k53 dX3_log_69 ?_
    refine lv_if_le (tgt := 103) hx hb dX3_log_72 (by decide) (fun c72 => ?_) (fun c72 => ?_)
    ·
      exact j103 (Or.inl (by rw [hn9] at c72; have := (nI_leI (a := n) (b := 0) (by omega) (by omega)).mp c72; omega)) _ (lv_sub hl [0, 1, 2, 3, 4, 5] rfl)
    ·
      have hn1 : 1 ≤ n := Nat.one_le_iff_ne_zero.mpr (fun e => c72 (by rw [hn9, e]; decide +kernel))
      refine lv_iload_n hx hb dX3_log_75 rfl (lv_at hl 1 rfl) ?_
      refine lv_aload_n hx hb dX3_log_76 rfl (lv_at hl 0 rfl) ?_
      refine g3_1 hx hb hts i3 hown hS.1 k18 dX3_log_77 ?_
      refine lv_aload_n hx hb dX3_log_80 rfl (lv_at hl 0 rfl) ?_
      refine g3_5 hx hb hts i3 hown hS.1 k53 dX3_log_81 ?_
      refine lv_iconst (v := 1) hx hb dX3_log_84 (by decide +kernel) ?_
      refine lv_isub hx hb dX3_log_85 ?_
      refine a_log (k := n - 1) hx hb hS.1 (by rw [hn9]; exact nI_pre hn1) (by omega) dX3_log_86 ?_
      refine g2_0 (by omega) hx hb hts i2 hown hS.1 k63 dX3_log_87 ?_
      refine lv_icmp_gt (tgt := 103) hx hb dX3_log_90 (by decide) (fun c90 => ?_) (fun c90 => ?_)
      ·
        exact j103 (Or.inr c90) _ (lv_sub hl [0, 1, 2, 3, 4, 5] rfl)
      ·
        refine s_throw (text := "the minute is not later than the latest one") (cls := "java/lang/IllegalStateException") (ik := 56) (is := 66) (ic := 60) (names := ["java/lang/RuntimeException", "java/lang/Exception"]) hx hb hfl hown (by decide +kernel) (by decide +kernel) (hts _ (by decide +kernel)) (hts _ (by decide +kernel)) (hS.1.2.2.2.1.2.2.1.2.2.1) (fun w h => hts w (by first | exact List.mem_cons_of_mem _ (List.mem_append_right _ h) | exact List.mem_cons_of_mem _ (List.mem_append_left _ (List.mem_append_right _ h)) | exact List.mem_cons_of_mem _ h)) (by decide +kernel) (by decide +kernel) (hS.1.2.2.2.1.2.2.2.2.2.2.1) (hS.1.2.2.2.1.2.2.2) hS.1.2.2.2.2 (hl.1.trans hml.symm) dX3_log_93 dX3_log_96 dX3_log_97 dX3_log_99 dX3_log_102 hno (Nat.le_of_ble_eq_true rfl) (Nat.le_of_ble_eq_true rfl) hlk (Or.inr ⟨rfl, ⟨c8, c19, c26, c38, c46⟩, fun q => q.2.elim (fun e => c72 (by rw [hn9, e]; decide +kernel)) c90⟩) ⟨Nat.le_of_ble_eq_true rfl, Nat.le_of_ble_eq_true rfl⟩ ⟨Nat.le_of_ble_eq_true rfl, Nat.le_of_ble_eq_true rfl⟩
  ·
    refine s_throw (text := "the log is full") (cls := "java/lang/IllegalStateException") (ik := 56) (is := 58) (ic := 60) (names := ["java/lang/RuntimeException", "java/lang/Exception"]) hx hb hfl hown (by decide +kernel) (by decide +kernel) (hts _ (by decide +kernel)) (hts _ (by decide +kernel)) (hS.1.2.2.2.1.2.2.1.2.1) (fun w h => hts w (by first | exact List.mem_cons_of_mem _ (List.mem_append_right _ h) | exact List.mem_cons_of_mem _ (List.mem_append_left _ (List.mem_append_right _ h)) | exact List.mem_cons_of_mem _ h)) (by decide +kernel) (by decide +kernel) (hS.1.2.2.2.1.2.2.2.2.2.2.1) (hS.1.2.2.2.1.2.2.2) hS.1.2.2.2.2 (hl.1.trans hml.symm) dX3_log_58 dX3_log_61 dX3_log_62 dX3_log_64 dX3_log_67 hno (Nat.le_of_ble_eq_true rfl) (Nat.le_of_ble_eq_true rfl) hlk (Or.inr ⟨rfl, ⟨c8, c19, c26, c38, c46⟩, fun q => c55 (by rw [hn9]; exact (nI_ltI (b := 60) (by omega) (by omega)).mpr q.1)⟩) ⟨Nat.le_of_ble_eq_true rfl, Nat.le_of_ble_eq_true rfl⟩ ⟨Nat.le_of_ble_eq_true rfl, Nat.le_of_ble_eq_true rfl⟩
