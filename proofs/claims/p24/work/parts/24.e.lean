set_option maxRecDepth 100000 in
set_option maxHeartbeats 4000000 in
theorem c_X3_reckon (l : Launch) (D : sD) (B : Nat) (ad : Nat → Nat) (κ : sQ) (sz : Nat) (i : Nat) (hi : i < 60) (hok : kOk κ i) : Met l yX3_reckon wsX3_reckon ({ frames := 2, cells := 0, slots := 0, locals := 55 } : Room) (sPz D B (CW D ad κ) sz ([.ref (ad 0), .ref (ad (8 + i))] : List Value)) (va_Qv (S := Unit) (fun _ => True) (fun _ t => va_P D.1 vwCl (CW D ad (kR κ i)) t.heap) (rA 68 ad sz)) 0 0 (rA 68 ad sz) := by
  refine s_head (cc := cX3_reckon) (maxL := 7) (ret := none) (by decide +kernel) rfl (Nat.le_of_ble_eq_true rfl) ?_
  intro p e s m below meth c hx hb hr hlk hml hown hnm hts hB0 ls hl
  obtain ⟨hsz, hJ⟩ := hB0
  have hown : s.vm.findClass RX3 = some m.cls := hown
  have hl : lv_has ls 7 [(0, .ref (ad 0)), (1, .ref (ad (8 + i)))] := hl
  subst hsz
  have hS := sS.start hJ (CW_adr D ad κ)
  have k68 : (Cond.fieldLink RX3 68 "SailLog$Entry" "toldSpeed" "I").before ([.ref (ad 0), .ref (ad (8 + i))] : List Value).toArray s = true := hts _ (by decide +kernel)
  have i2 : ∀ w ∈ wsX20, w ∈ wsX3_reckon := by decide +kernel
  have k37 : (Cond.fieldLink RX3 37 "SailLog" "factor" "I").before ([.ref (ad 0), .ref (ad (8 + i))] : List Value).toArray s = true := hts _ (by decide +kernel)
  have i3 : ∀ w ∈ wsX30, w ∈ wsX3_reckon := by decide +kernel
  have k109 : (Cond.fieldLink RX3 109 "SailLog$Entry" "trueSpeed" "I").before ([.ref (ad 0), .ref (ad (8 + i))] : List Value).toArray s = true := hts _ (by decide +kernel)
  have k71 : (Cond.fieldLink RX3 71 "SailLog$Entry" "toldHeading" "I").before ([.ref (ad 0), .ref (ad (8 + i))] : List Value).toArray s = true := hts _ (by decide +kernel)
  have k87 : (Cond.fieldLink RX3 87 "SailLog" "compass" "I").before ([.ref (ad 0), .ref (ad (8 + i))] : List Value).toArray s = true := hts _ (by decide +kernel)
  have k118 : (Cond.fieldLink RX3 118 "SailLog$Entry" "trueHeading" "I").before ([.ref (ad 0), .ref (ad (8 + i))] : List Value).toArray s = true := hts _ (by decide +kernel)
  have k77 : (Cond.fieldLink RX3 77 "SailLog$Entry" "toldAngle" "I").before ([.ref (ad 0), .ref (ad (8 + i))] : List Value).toArray s = true := hts _ (by decide +kernel)
  have k90 : (Cond.fieldLink RX3 90 "SailLog" "vane" "I").before ([.ref (ad 0), .ref (ad (8 + i))] : List Value).toArray s = true := hts _ (by decide +kernel)
  have k74 : (Cond.fieldLink RX3 74 "SailLog$Entry" "toldStrength" "I").before ([.ref (ad 0), .ref (ad (8 + i))] : List Value).toArray s = true := hts _ (by decide +kernel)
  have k12 : (Cond.fieldLink RX3 12 "SailLog" "circle" "LSailLog$Circle;").before ([.ref (ad 0), .ref (ad (8 + i))] : List Value).toArray s = true := hts _ (by decide +kernel)
  have k201 : (Cond.constantLong RX3 201 (1000)).before ([.ref (ad 0), .ref (ad (8 + i))] : List Value).toArray s = true := hts _ (by decide +kernel)
  have k112 : (Cond.fieldLink RX3 112 "SailLog$Entry" "windStrength" "I").before ([.ref (ad 0), .ref (ad (8 + i))] : List Value).toArray s = true := hts _ (by decide +kernel)
  have k115 : (Cond.fieldLink RX3 115 "SailLog$Entry" "windAngle" "I").before ([.ref (ad 0), .ref (ad (8 + i))] : List Value).toArray s = true := hts _ (by decide +kernel)
  refine lv_aload_n hx hb dX3_reckon_0 rfl (lv_at hl 1 rfl) ?_
  refine lv_aload_n hx hb dX3_reckon_1 rfl (lv_at hl 1 rfl) ?_
  refine g2_1 (by omega) hx hb hts i2 hown hS.1 k68 dX3_reckon_2 ?_
  refine lv_aload_n hx hb dX3_reckon_5 rfl (lv_at hl 0 rfl) ?_
  refine g3_6 hx hb hts i3 hown hS.1 k37 dX3_reckon_6 ?_
  refine lv_imul hx hb dX3_reckon_9 ?_
  refine lv_sipush (v := 1000) hx hb dX3_reckon_10 (by decide +kernel) ?_
  refine lv_idiv hx hb dX3_reckon_13 (by decide +kernel) ?_
  refine lv_topi (fun zz ezz => ?_)
  obtain rfl : zz = wSp (κ 5 i) (κ 0 1) := ezz.trans (rfl)
  refine p2_5 (by omega) hx hb hts i2 hown hS k109 dX3_reckon_14 (fun H locs hS => ?_)
  refine lv_aload_n hx hb dX3_reckon_17 rfl (lv_at hl 1 rfl) ?_
  refine lv_aload_n hx hb dX3_reckon_18 rfl (lv_at hl 1 rfl) ?_
  refine g2_2 (by omega) hx hb hts i2 hown hS.1 k71 dX3_reckon_19 ?_
  refine lv_topi (fun zz ezz => ?_)
  obtain rfl : zz = κ 6 i := ezz.trans (by simp [kset])
  refine lv_aload_n hx hb dX3_reckon_22 rfl (lv_at hl 0 rfl) ?_
  refine g3_7 hx hb hts i3 hown hS.1 k87 dX3_reckon_23 ?_
  refine lv_topi (fun zz ezz => ?_)
  obtain rfl : zz = κ 0 2 := ezz.trans (by simp [kset])
  refine s_ciS (As := [.int (κ 6 i), .int (κ 0 2)]) (rest := [.ref (ad (8 + i))]) ⟨hx, hb, hml, hown, hts⟩ (c_X3_turned l (κ 6 i) (κ 0 2) ) (va_cwS 2 hts gX3_reckon_X3_turned rfl rfl rfl hdS_X3_turned ⟨Nat.le_of_ble_eq_true rfl, Nat.le_of_ble_eq_true rfl⟩) sPS0 rfl hl.1 rfl (Nat.le_of_ble_eq_true rfl) dX3_reckon_26 ⟨Nat.le_of_ble_eq_true rfl, Nat.le_of_ble_eq_true rfl⟩ ?_
  refine p2_6 (by omega) hx hb hts i2 hown hS k118 dX3_reckon_29 (fun H locs hS => ?_)
  refine lv_aload_n hx hb dX3_reckon_32 rfl (lv_at hl 1 rfl) ?_
  refine g2_4 (by omega) hx hb hts i2 hown hS.1 k77 dX3_reckon_33 ?_
  refine lv_topi (fun zz ezz => ?_)
  obtain rfl : zz = κ 8 i := ezz.trans (by simp [kset])
  refine lv_aload_n hx hb dX3_reckon_36 rfl (lv_at hl 0 rfl) ?_
  refine g3_8 hx hb hts i3 hown hS.1 k90 dX3_reckon_37 ?_
  refine lv_topi (fun zz ezz => ?_)
  obtain rfl : zz = κ 0 3 := ezz.trans (by simp [kset])
  refine s_ciS (As := [.int (κ 8 i), .int (κ 0 3)]) (rest := []) ⟨hx, hb, hml, hown, hts⟩ (c_X3_turned l (κ 8 i) (κ 0 3) ) (va_cwS 2 hts gX3_reckon_X3_turned rfl rfl rfl hdS_X3_turned ⟨Nat.le_of_ble_eq_true rfl, Nat.le_of_ble_eq_true rfl⟩) sPS0 rfl hl.1 rfl (Nat.le_of_ble_eq_true rfl) dX3_reckon_40 ⟨Nat.le_of_ble_eq_true rfl, Nat.le_of_ble_eq_true rfl⟩ ?_
  refine lv_istore_n (lv' := [(2, .int (t360 ((κ 8 i) + (κ 0 3)))), (0, .ref (ad 0)), (1, .ref (ad (8 + i)))]) hx hb dX3_reckon_43 rfl hl (by decide) rfl (fun ls hl => ?_)
  refine lv_aload_n hx hb dX3_reckon_44 rfl (lv_at hl 2 rfl) ?_
  refine g2_3 (by omega) hx hb hts i2 hown hS.1 k74 dX3_reckon_45 ?_
  refine lv_topi (fun zz ezz => ?_)
  obtain rfl : zz = κ 7 i := ezz.trans (by simp [kset])
  refine lv_i2l hx hb dX3_reckon_48 rfl ?_
  refine lv_aload_n hx hb dX3_reckon_49 rfl (lv_at hl 1 rfl) ?_
  refine g3_0 hx hb hts i3 hown hS.1 k12 dX3_reckon_50 ?_
  refine lv_iload_n hx hb dX3_reckon_53 rfl (lv_at hl 0 rfl) ?_
  refine s_ciV (As := [.int (t360 ((κ 8 i) + (κ 0 3)))]) (rest := [.long ((κ 7 i).toInt64)]) ⟨hx, hb, hml, hown, hts⟩ (c_X1_cosineOf l D B ad (kset (kset κ 9 i (wSp (κ 5 i) (κ 0 1))) 10 i (t360 ((κ 6 i) + (κ 0 2)))) (t360 ((κ 8 i) + (κ 0 3))) ) (cwV 1 hts gX3_reckon_X1_cosineOf rfl rfl rfl hdV_X1_cosineOf ⟨Nat.le_of_ble_eq_true rfl, Nat.le_of_ble_eq_true rfl⟩) (sPV hS.1 (ci := 1) (q0 := 1) rfl rfl) rfl hl.1 rfl (Nat.le_of_ble_eq_true rfl) dX3_reckon_54 ⟨Nat.le_of_ble_eq_true rfl, Nat.le_of_ble_eq_true rfl⟩ ?_
  refine lv_topi (fun zz ezz => ?_)
  obtain rfl : zz = cs (κ 8 i + κ 0 3) := ezz.trans (cs_t _)
  refine lv_i2l hx hb dX3_reckon_57 rfl ?_
  refine lv_lmul hx hb dX3_reckon_58 ?_
  refine lv_ldc2 (own := RX3) hx hb hown k201 dX3_reckon_59 ?_
  refine lv_aload_n hx hb dX3_reckon_62 rfl (lv_at hl 2 rfl) ?_
  refine g2_5 (by omega) hx hb hts i2 hown hS.1 k109 dX3_reckon_63 ?_
  refine lv_topi (fun zz ezz => ?_)
  obtain rfl : zz = kSp κ i := ezz.trans (by simp [kset, kSp])
  refine lv_i2l hx hb dX3_reckon_66 rfl ?_
  refine lv_lmul hx hb dX3_reckon_67 ?_
  refine lv_lsub hx hb dX3_reckon_68 ?_
  refine lv_topl (fun zz ezz => ?_)
  obtain rfl : zz = kAh κ i := ezz.trans (rfl)
  refine lv_lstore_n (lv' := [(3, .long (kAh κ i)), (2, .int (t360 ((κ 8 i) + (κ 0 3)))), (0, .ref (ad 0)), (1, .ref (ad (8 + i)))]) hx hb dX3_reckon_69 rfl hl (by decide) rfl (fun ls hl => ?_)
  refine lv_aload_n hx hb dX3_reckon_70 rfl (lv_at hl 3 rfl) ?_
  refine g2_3 (by omega) hx hb hts i2 hown hS.1 k74 dX3_reckon_71 ?_
  refine lv_topi (fun zz ezz => ?_)
  obtain rfl : zz = κ 7 i := ezz.trans (by simp [kset])
  refine lv_i2l hx hb dX3_reckon_74 rfl ?_
  refine lv_aload_n hx hb dX3_reckon_75 rfl (lv_at hl 2 rfl) ?_
  refine g3_0 hx hb hts i3 hown hS.1 k12 dX3_reckon_76 ?_
  refine lv_iload_n hx hb dX3_reckon_79 rfl (lv_at hl 1 rfl) ?_
  refine s_ciV (As := [.int (t360 ((κ 8 i) + (κ 0 3)))]) (rest := [.long ((κ 7 i).toInt64)]) ⟨hx, hb, hml, hown, hts⟩ (c_X1_sineOf l D B ad (kset (kset κ 9 i (wSp (κ 5 i) (κ 0 1))) 10 i (t360 ((κ 6 i) + (κ 0 2)))) (t360 ((κ 8 i) + (κ 0 3))) ) (cwV 1 hts gX3_reckon_X1_sineOf rfl rfl rfl hdV_X1_sineOf ⟨Nat.le_of_ble_eq_true rfl, Nat.le_of_ble_eq_true rfl⟩) (sPV hS.1 (ci := 1) (q0 := 1) rfl rfl) rfl hl.1 rfl (Nat.le_of_ble_eq_true rfl) dX3_reckon_80 ⟨Nat.le_of_ble_eq_true rfl, Nat.le_of_ble_eq_true rfl⟩ ?_
  refine lv_topi (fun zz ezz => ?_)
  obtain rfl : zz = sn (κ 8 i + κ 0 3) := ezz.trans (sn_t _)
  refine lv_i2l hx hb dX3_reckon_83 rfl ?_
  refine lv_lmul hx hb dX3_reckon_84 ?_
  refine lv_topl (fun zz ezz => ?_)
  obtain rfl : zz = kAc κ i := ezz.trans (rfl)
  refine lv_lstore (lv' := [(5, .long (kAc κ i)), (3, .long (kAh κ i)), (2, .int (t360 ((κ 8 i) + (κ 0 3)))), (0, .ref (ad 0)), (1, .ref (ad (8 + i)))]) hx hb dX3_reckon_85 hl (by decide) rfl (fun ls hl => ?_)
  refine lv_aload_n hx hb dX3_reckon_87 rfl (lv_at hl 4 rfl) ?_
  refine lv_lload_n hx hb dX3_reckon_88 rfl (lv_at hl 1 rfl) ?_
  refine lv_lload_n hx hb dX3_reckon_89 rfl (lv_at hl 1 rfl) ?_
  refine lv_lmul hx hb dX3_reckon_90 ?_
  refine lv_lload hx hb dX3_reckon_91 (lv_at hl 0 rfl) ?_
  refine lv_lload hx hb dX3_reckon_93 (lv_at hl 0 rfl) ?_
  refine lv_lmul hx hb dX3_reckon_95 ?_
  refine lv_ladd hx hb dX3_reckon_96 ?_
  refine s_clS (As := [.long (((kAh κ i) * (kAh κ i)) + ((kAc κ i) * (kAc κ i)))]) (rest := [.ref (ad (8 + i))]) ⟨hx, hb, hml, hown, hts⟩ (c_X3_rootOf l (((kAh κ i) * (kAh κ i)) + ((kAc κ i) * (kAc κ i))) ) (va_cwS 1 hts gX3_reckon_X3_rootOf rfl rfl rfl hdS_X3_rootOf ⟨Nat.le_of_ble_eq_true rfl, Nat.le_of_ble_eq_true rfl⟩) sPS0 rfl hl.1 rfl (Nat.le_of_ble_eq_true rfl) dX3_reckon_97 ⟨Nat.le_of_ble_eq_true rfl, Nat.le_of_ble_eq_true rfl⟩ ?_
  refine lv_ldc2 (own := RX3) hx hb hown k201 dX3_reckon_100 ?_
  refine lv_ldiv hx hb dX3_reckon_103 (by decide +kernel) ?_
  refine lv_l2i hx hb dX3_reckon_104 rfl ?_
  refine lv_topi (fun zz ezz => ?_)
  obtain rfl : zz = wWs (kAh κ i) (kAc κ i) := ezz.trans (rfl)
  refine p2_7 (by omega) hx hb hts i2 hown hS k112 dX3_reckon_105 (fun H locs hS => ?_)
  refine lv_aload_n hx hb dX3_reckon_108 rfl (lv_at hl 4 rfl) ?_
  refine lv_aload_n hx hb dX3_reckon_109 rfl (lv_at hl 3 rfl) ?_
  refine g3_0 hx hb hts i3 hown hS.1 k12 dX3_reckon_110 ?_
  refine lv_lload_n hx hb dX3_reckon_113 rfl (lv_at hl 1 rfl) ?_
  refine lv_lload hx hb dX3_reckon_114 (lv_at hl 0 rfl) ?_
  refine s_ciV (As := [.long (kAh κ i), .long (kAc κ i)]) (rest := [.ref (ad (8 + i))]) ⟨hx, hb, hml, hown, hts⟩ (c_X1_angleOf l D B ad (kset (kset (kset κ 9 i (wSp (κ 5 i) (κ 0 1))) 10 i (t360 ((κ 6 i) + (κ 0 2)))) 11 i (wWs (kAh κ i) (kAc κ i))) (kAh κ i) (kAc κ i) (by have := kAh_b hok; omega) (by have := kAc_b hok; omega)) (cwV 2 hts gX3_reckon_X1_angleOf rfl rfl rfl hdV_X1_angleOf ⟨Nat.le_of_ble_eq_true rfl, Nat.le_of_ble_eq_true rfl⟩) (sPV hS.1 (ci := 1) (q0 := 1) rfl rfl) rfl hl.1 rfl (Nat.le_of_ble_eq_true rfl) dX3_reckon_116 ⟨Nat.le_of_ble_eq_true rfl, Nat.le_of_ble_eq_true rfl⟩ ?_
  refine p2_8 (by omega) hx hb hts i2 hown hS k115 dX3_reckon_119 (fun H locs hS => ?_)
  rw [show (CW D ad (kset (kset (kset (kset κ 9 i (wSp (κ 5 i) (κ 0 1))) 10 i (t360 ((κ 6 i) + (κ 0 2)))) 11 i (wWs (kAh κ i) (kAc κ i))) 12 i (ANG (kAh κ i) (kAc κ i)))) = (CW D ad (kR κ i)) from rfl] at hS
  exact s_mret hx hb hr hlk dX3_reckon_122 hS
set_option maxRecDepth 100000 in
set_option maxHeartbeats 4000000 in
theorem c_X3_reckonAll (l : Launch) (D : sD) (B : Nat) (ad : Nat → Nat) (κ : sQ) (sz : Nat) (n : Nat) (hn9 : κ 0 0 = nI n) (hn60 : n ≤ 60) (hok : ∀ i, i < n → kOk κ i) : Met l yX3_reckonAll wsX3_reckonAll ({ frames := 5, cells := 0, slots := 0, locals := 95 } : Room) (sPz D B (CW D ad κ) sz ([.ref (ad 0)] : List Value)) (va_Qv (S := Unit) (fun _ => True) (fun _ t => va_P D.1 vwCl (CW D ad (kAll κ n)) t.heap) (rA 68 ad sz)) 0 0 (rA 68 ad sz) := by
  refine s_head (cc := cX3_reckonAll) (maxL := 2) (ret := none) (by decide +kernel) rfl (Nat.le_of_ble_eq_true rfl) ?_
  intro p e s m below meth c hx hb hr hlk hml hown hnm hts hB0 ls hl
  obtain ⟨hsz, hJ⟩ := hB0
  have hown : s.vm.findClass RX3 = some m.cls := hown
  have hl : lv_has ls 2 [(0, .ref (ad 0))] := hl
  subst hsz
  have hS := sS.start hJ (CW_adr D ad κ)
  have k26 : (Cond.fieldLink RX3 26 "SailLog" "bestSpeeds" "LSailLog$BestSpeeds;").before ([.ref (ad 0)] : List Value).toArray s = true := hts _ (by decide +kernel)
  have i3 : ∀ w ∈ wsX30, w ∈ wsX3_reckonAll := by decide +kernel
  have k53 : (Cond.fieldLink RX3 53 "SailLog" "count" "I").before ([.ref (ad 0)] : List Value).toArray s = true := hts _ (by decide +kernel)
  have k18 : (Cond.fieldLink RX3 18 "SailLog" "logged" "[LSailLog$Entry;").before ([.ref (ad 0)] : List Value).toArray s = true := hts _ (by decide +kernel)
  refine lv_aload_n hx hb dX3_reckonAll_0 rfl (lv_at hl 0 rfl) ?_
  refine g3_2 hx hb hts i3 hown hS.1 k26 dX3_reckonAll_1 ?_
  refine s_mvV (wd' := (CW D ad (kfill κ 1 190))) (As := []) (rest := []) ⟨hx, hb, hml, hown, hts⟩ (c_X0_forget l D B ad κ s.heap.size ) (cwV 0 hts gX3_reckonAll_X0_forget rfl rfl rfl hdV_X0_forget ⟨Nat.le_of_ble_eq_true rfl, Nat.le_of_ble_eq_true rfl⟩) (sPVz hS.1 (ci := 0) (q0 := 4) rfl rfl) hS (CW_adr _ _ _) (CW_adr _ _ _) rfl hl.1 rfl (Nat.le_of_ble_eq_true rfl) dX3_reckonAll_4 ⟨Nat.le_of_ble_eq_true rfl, Nat.le_of_ble_eq_true rfl⟩ (fun H locs hS => ?_)
  rw [show (kfill κ 1 190) = kAll κ 0 from rfl] at hS
  refine lv_iconst (v := 0) hx hb dX3_reckonAll_7 (by decide +kernel) ?_
  refine lv_istore_n (lv' := [(1, .int 0), (0, .ref (ad 0))]) hx hb dX3_reckonAll_8 rfl hl (by decide) rfl (fun ls hl => ?_)
  have loop9 : ∀ (fuel : Nat) (j : Nat) (hj : j ≤ n) (hfu : n + 1 ≤ j + fuel) (H : Heap) (locs : List Loc) (hS : sS D B 68 ad (CW D ad (kAll κ j)) s H locs) (ls : Array Slot), lv_has ls 2 [(0, .ref (ad 0)), (1, .int (nI j))] → W p l e ({ frames := 5, cells := 0, slots := 0, locals := 95 } : Room) s m ([.ref (ad 0)] : List Value).toArray below meth c H locs 0 0 (MQ below (va_Qv (S := Unit) (fun _ => True) (fun _ t => va_P D.1 vwCl (CW D ad (kAll κ n)) t.heap) (rA 68 ad s.heap.size)) ([.ref (ad 0)] : List Value).toArray s 0 0 (rA 68 ad s.heap.size)) (F0 m 9 ls []) := by
    intro fuel
    induction fuel with
    | zero => intro j hj hfu H locs hS ls hl; exact absurd (hfu) (by omega)
    | succ fuel ih9 =>
      intro j hj hfu H locs hS ls hl
      refine lv_iload_n hx hb dX3_reckonAll_9 rfl (lv_at hl 1 rfl) ?_
      refine lv_aload_n hx hb dX3_reckonAll_10 rfl (lv_at hl 0 rfl) ?_
      refine g3_5 hx hb hts i3 hown hS.1 k53 dX3_reckonAll_11 ?_
      refine lv_topi (fun zz ezz => ?_)
      obtain rfl : zz = nI n := ezz.trans ((kAll_lo κ j 0 0 (by omega) (by omega)).trans hn9)
      refine lv_icmp_ge (tgt := 46) hx hb dX3_reckonAll_14 (by decide) (fun c14 => ?_) (fun c14 => ?_)
      ·
        rw [show (CW D ad (kAll κ j)) = (CW D ad (kAll κ n)) from by rw [show j = n from by have := (nI_leI (a := n) (b := j) (by omega) (by omega)).mp c14; omega]] at hS
        exact s_mret hx hb hr hlk dX3_reckonAll_46 hS
      ·
        have hj2 : j < n := by have := mt (nI_leI (a := n) (b := j) (by omega) (by omega)).mpr c14; omega
        have hi60 : j < 60 := by omega
        have hokj := kAll_ok j (hok j hj2)
        refine lv_aload_n hx hb dX3_reckonAll_17 rfl (lv_at hl 0 rfl) ?_
        refine lv_aload_n hx hb dX3_reckonAll_18 rfl (lv_at hl 0 rfl) ?_
        refine g3_1 hx hb hts i3 hown hS.1 k18 dX3_reckonAll_19 ?_
        refine lv_iload_n hx hb dX3_reckonAll_22 rfl (lv_at hl 1 rfl) ?_
        refine a_log (k := j) hx hb hS.1 (rfl) (by omega) dX3_reckonAll_23 ?_
        refine s_mvV (wd' := (CW D ad (kR (kAll κ j) j))) (As := [.ref (ad (8 + j))]) (rest := []) ⟨hx, hb, hml, hown, hts⟩ (c_X3_reckon l D B ad (kAll κ j) H.size j (hi60) (hokj)) (cwV 1 hts gX3_reckonAll_X3_reckon rfl rfl rfl hdV_X3_reckon ⟨Nat.le_of_ble_eq_true rfl, Nat.le_of_ble_eq_true rfl⟩) (sPVz hS.1 (ci := 3) (q0 := 0) rfl rfl) hS (CW_adr _ _ _) (CW_adr _ _ _) rfl hl.1 rfl (Nat.le_of_ble_eq_true rfl) dX3_reckonAll_24 ⟨Nat.le_of_ble_eq_true rfl, Nat.le_of_ble_eq_true rfl⟩ (fun H locs hS => ?_)
        refine lv_aload_n hx hb dX3_reckonAll_27 rfl (lv_at hl 0 rfl) ?_
        refine g3_2 hx hb hts i3 hown hS.1 k26 dX3_reckonAll_28 ?_
        refine lv_aload_n hx hb dX3_reckonAll_31 rfl (lv_at hl 0 rfl) ?_
        refine g3_1 hx hb hts i3 hown hS.1 k18 dX3_reckonAll_32 ?_
        refine lv_iload_n hx hb dX3_reckonAll_35 rfl (lv_at hl 1 rfl) ?_
        refine a_log (k := j) hx hb hS.1 (rfl) (by omega) dX3_reckonAll_36 ?_
        refine s_mvV (wd' := (CW D ad (kset (kR (kAll κ j) j) 1 ((rN (kR (kAll κ j) j 12 j)) * 10 + (cN (kR (kAll κ j) j 11 j))) (if ((kR (kAll κ j) j) 1 ((rN (kR (kAll κ j) j 12 j)) * 10 + (cN (kR (kAll κ j) j 11 j)))) < ((kR (kAll κ j) j) 9 j) then ((kR (kAll κ j) j) 9 j) else ((kR (kAll κ j) j) 1 ((rN (kR (kAll κ j) j 12 j)) * 10 + (cN (kR (kAll κ j) j 11 j)))))))) (As := [.ref (ad (8 + j))]) (rest := []) ⟨hx, hb, hml, hown, hts⟩ (c_X0_learn l D B ad (kR (kAll κ j) j) H.size j (rN (kR (kAll κ j) j 12 j)) (cN (kR (kAll κ j) j 11 j)) (hi60) ((kR_row _ j).1) ((kR_row _ j).2) ((kR_col hokj).1) ((kR_col hokj).2)) (cwV 1 hts gX3_reckonAll_X0_learn rfl rfl rfl hdV_X0_learn ⟨Nat.le_of_ble_eq_true rfl, Nat.le_of_ble_eq_true rfl⟩) (sPVz hS.1 (ci := 0) (q0 := 4) rfl rfl) hS (CW_adr _ _ _) (CW_adr _ _ _) rfl hl.1 rfl (Nat.le_of_ble_eq_true rfl) dX3_reckonAll_37 ⟨Nat.le_of_ble_eq_true rfl, Nat.le_of_ble_eq_true rfl⟩ (fun H locs hS => ?_)
        refine lv_iinc (v := nI (j + 1)) (lv' := [(1, .int (nI (j + 1))), (0, .ref (ad 0))]) hx hb dX3_reckonAll_40 hl (k := 1) rfl (nI_1 j) (by decide) rfl (fun ls hl => ?_)
        refine lv_goto (tgt := 9) hx hb dX3_reckonAll_43 (by decide) ?_
        exact ih9 (j + 1) (by omega) (by omega) _ _ hS _ (lv_sub hl [1, 0] rfl)
  exact loop9 (n + 1) 0 (by omega) (by omega) _ _ hS _ (lv_sub hl [1, 0] rfl)
