set_option maxRecDepth 100000 in
set_option maxHeartbeats 4000000 in
theorem c_X4_thrown (l : Launch) (D : sD) (B : Nat) (ad : Nat → Nat) (rf : Int32) (κ : sQ) : Met l yX4_thrown wsX4_thrown ({ frames := 0, cells := 0, slots := 0, locals := 0 } : Room) (sP D B (MW D ad rf κ) ([.ref (ad 0)] : List Value)) (vp_Si (fun rr => rr = rf)) 0 0 (fun _ => False) := by
  refine s_head (cc := cX4_thrown) (maxL := 1) (ret := (some .int)) (by decide +kernel) rfl (Nat.le_of_ble_eq_true rfl) ?_
  intro p e s m below meth c hx hb hr hlk hml hown hnm hts hB0 ls hl
  have hJ := hB0
  have hown : s.vm.findClass RX4 = some m.cls := hown
  have hl : lv_has ls 1 [(0, .ref (ad 0))] := hl
  have k35 : (Cond.fieldLink RX4 35 "SailLogModel" "refusal" "I").before ([.ref (ad 0)] : List Value).toArray s = true := hts _ (by decide +kernel)
  have i4 : ∀ w ∈ wsX40, w ∈ wsX4_thrown := by decide +kernel
  refine lv_aload_n hx hb dX4_thrown_0 rfl (lv_at hl 0 rfl) ?_
  refine g4_0 hx hb hts i4 hown hJ k35 dX4_thrown_1 ?_
  exact s_iret hx hb hr hlk dX4_thrown_4 (rfl)
set_option maxRecDepth 100000 in
set_option maxHeartbeats 4000000 in
theorem c_X4_refused (l : Launch) (D : sD) (B : Nat) (ad : Nat → Nat) (rf : Int32) (κ : sQ) (sz : Nat) (w : Int32) : Met l yX4_refused wsX4_refused ({ frames := 0, cells := 0, slots := 0, locals := 0 } : Room) (sPz D B (MW D ad rf κ) sz ([.ref (ad 0), .int w] : List Value)) (va_Qi (S := Unit) (fun rr _ => rr = bI (¬ w = 0)) (fun _ t => va_P D.1 vwCl (MW D ad w κ) t.heap) (rA 8 ad sz)) 0 0 (rA 8 ad sz) := by
  refine s_head (cc := cX4_refused) (maxL := 2) (ret := (some .boolean)) (by decide +kernel) rfl (Nat.le_of_ble_eq_true rfl) ?_
  intro p e s m below meth c hx hb hr hlk hml hown hnm hts hB0 ls hl
  obtain ⟨hsz, hJ⟩ := hB0
  have hown : s.vm.findClass RX4 = some m.cls := hown
  have hl : lv_has ls 2 [(0, .ref (ad 0)), (1, .int w)] := hl
  subst hsz
  have hS := sS.start hJ (MW_adr D ad rf κ)
  have k35 : (Cond.fieldLink RX4 35 "SailLogModel" "refusal" "I").before ([.ref (ad 0), .int w] : List Value).toArray s = true := hts _ (by decide +kernel)
  have i4 : ∀ w ∈ wsX40, w ∈ wsX4_refused := by decide +kernel
  refine lv_aload_n hx hb dX4_refused_0 rfl (lv_at hl 0 rfl) ?_
  refine lv_iload_n hx hb dX4_refused_1 rfl (lv_at hl 1 rfl) ?_
  refine p4_0 hx hb hts i4 hown hS k35 dX4_refused_2 (fun H locs hS => ?_)
  refine lv_iload_n hx hb dX4_refused_5 rfl (lv_at hl 1 rfl) ?_
  refine lv_if_eq (tgt := 13) hx hb dX4_refused_6 (by decide) (fun c6 => ?_) (fun c6 => ?_)
  ·
    refine lv_iconst (v := 0) hx hb dX4_refused_13 (by decide +kernel) ?_
    exact s_mzret hx hb hr hlk dX4_refused_14 (Or.inl rfl) ((bI_f (fun h => h c6)).symm) hS
  ·
    refine lv_iconst (v := 1) hx hb dX4_refused_9 (by decide +kernel) ?_
    refine lv_goto (tgt := 14) hx hb dX4_refused_10 (by decide) ?_
    exact s_mzret hx hb hr hlk dX4_refused_14 (Or.inr rfl) ((bI_t c6).symm) hS
set_option maxRecDepth 100000 in
set_option maxHeartbeats 4000000 in
theorem c_X4_entries (l : Launch) (D : sD) (B : Nat) (ad : Nat → Nat) (rf : Int32) (κ : sQ) (sz : Nat) : Met l yX4_entries wsX4_entries ({ frames := 0, cells := 0, slots := 0, locals := 0 } : Room) (sPz D B (MW D ad rf κ) sz ([.ref (ad 0)] : List Value)) (va_Qi (S := Unit) (fun rr _ => rr = κ 0 0) (fun _ t => va_P D.1 vwCl (MW D ad 0 κ) t.heap) (rA 8 ad sz)) 0 0 (rA 8 ad sz) := by
  refine s_head (cc := cX4_entries) (maxL := 1) (ret := (some .int)) (by decide +kernel) rfl (Nat.le_of_ble_eq_true rfl) ?_
  intro p e s m below meth c hx hb hr hlk hml hown hnm hts hB0 ls hl
  obtain ⟨hsz, hJ⟩ := hB0
  have hown : s.vm.findClass RX4 = some m.cls := hown
  have hl : lv_has ls 1 [(0, .ref (ad 0))] := hl
  subst hsz
  have hS := sS.start hJ (MW_adr D ad rf κ)
  have k35 : (Cond.fieldLink RX4 35 "SailLogModel" "refusal" "I").before ([.ref (ad 0)] : List Value).toArray s = true := hts _ (by decide +kernel)
  have i4 : ∀ w ∈ wsX40, w ∈ wsX4_entries := by decide +kernel
  have k42 : (Cond.fieldLink RX4 42 "SailLogModel" "entries" "I").before ([.ref (ad 0)] : List Value).toArray s = true := hts _ (by decide +kernel)
  refine lv_aload_n hx hb dX4_entries_0 rfl (lv_at hl 0 rfl) ?_
  refine lv_iconst (v := 0) hx hb dX4_entries_1 (by decide +kernel) ?_
  refine p4_0 hx hb hts i4 hown hS k35 dX4_entries_2 (fun H locs hS => ?_)
  refine lv_aload_n hx hb dX4_entries_5 rfl (lv_at hl 0 rfl) ?_
  refine g4_1 hx hb hts i4 hown hS.1 k42 dX4_entries_6 ?_
  exact s_miret hx hb hr hlk dX4_entries_9 (rfl) hS
set_option maxRecDepth 100000 in
set_option maxHeartbeats 4000000 in
theorem c_X4_sine (l : Launch) (D : sD) (B : Nat) (ad : Nat → Nat) (rf : Int32) (κ : sQ) (sz : Nat) (x : Int32) : Met l yX4_sine wsX4_sine ({ frames := 2, cells := 0, slots := 0, locals := 45 } : Room) (sPz D B (MW D ad rf κ) sz ([.ref (ad 0), .int x] : List Value)) (va_Qi (S := Unit) (fun rr _ => rr = sn x) (fun _ t => va_P D.1 vwCl (MW D ad 0 κ) t.heap) (rA 8 ad sz)) 0 0 (rA 8 ad sz) := by
  refine s_head (cc := cX4_sine) (maxL := 2) (ret := (some .int)) (by decide +kernel) rfl (Nat.le_of_ble_eq_true rfl) ?_
  intro p e s m below meth c hx hb hr hlk hml hown hnm hts hB0 ls hl
  obtain ⟨hsz, hJ⟩ := hB0
  have hown : s.vm.findClass RX4 = some m.cls := hown
  have hl : lv_has ls 2 [(0, .ref (ad 0)), (1, .int x)] := hl
  subst hsz
  have hS := sS.start hJ (MW_adr D ad rf κ)
  have k35 : (Cond.fieldLink RX4 35 "SailLogModel" "refusal" "I").before ([.ref (ad 0), .int x] : List Value).toArray s = true := hts _ (by decide +kernel)
  have i4 : ∀ w ∈ wsX40, w ∈ wsX4_sine := by decide +kernel
  refine lv_aload_n hx hb dX4_sine_0 rfl (lv_at hl 0 rfl) ?_
  refine lv_iconst (v := 0) hx hb dX4_sine_1 (by decide +kernel) ?_
  refine p4_0 hx hb hts i4 hown hS k35 dX4_sine_2 (fun H locs hS => ?_)
  refine lv_iload_n hx hb dX4_sine_5 rfl (lv_at hl 1 rfl) ?_
  refine s_ciS (As := [.int x]) (rest := []) ⟨hx, hb, hml, hown, hts⟩ (c_X4_sin l x ) (va_cwS 1 hts gX4_sine_X4_sin rfl rfl rfl hdS_X4_sin ⟨Nat.le_of_ble_eq_true rfl, Nat.le_of_ble_eq_true rfl⟩) sPS0 rfl hl.1 rfl (Nat.le_of_ble_eq_true rfl) dX4_sine_6 ⟨Nat.le_of_ble_eq_true rfl, Nat.le_of_ble_eq_true rfl⟩ ?_
  exact s_miret hx hb hr hlk dX4_sine_9 (rfl) hS
set_option maxRecDepth 100000 in
set_option maxHeartbeats 4000000 in
theorem c_X4_noEntry (l : Launch) (D : sD) (B : Nat) (ad : Nat → Nat) (rf : Int32) (κ : sQ) (sz : Nat) (x : Int32) : Met l yX4_noEntry wsX4_noEntry ({ frames := 1, cells := 0, slots := 0, locals := 22 } : Room) (sPz D B (MW D ad rf κ) sz ([.ref (ad 0), .int x] : List Value)) (va_Qi (S := Unit) (fun rr _ => rr = bI (¬ (0 ≤ x ∧ x ≤ (κ 0 0 - 1)))) (fun _ t => va_P D.1 vwCl (MW D ad (rE (0 ≤ x ∧ x ≤ (κ 0 0 - 1))) κ) t.heap) (rA 8 ad sz)) 0 0 (rA 8 ad sz) := by
  refine s_head (cc := cX4_noEntry) (maxL := 2) (ret := (some .boolean)) (by decide +kernel) rfl (Nat.le_of_ble_eq_true rfl) ?_
  intro p e s m below meth c hx hb hr hlk hml hown hnm hts hB0 ls hl
  obtain ⟨hsz, hJ⟩ := hB0
  have hown : s.vm.findClass RX4 = some m.cls := hown
  have hl : lv_has ls 2 [(0, .ref (ad 0)), (1, .int x)] := hl
  subst hsz
  have hS := sS.start hJ (MW_adr D ad rf κ)
  have k42 : (Cond.fieldLink RX4 42 "SailLogModel" "entries" "I").before ([.ref (ad 0), .int x] : List Value).toArray s = true := hts _ (by decide +kernel)
  have i4 : ∀ w ∈ wsX40, w ∈ wsX4_noEntry := by decide +kernel
  refine lv_aload_n hx hb dX4_noEntry_0 rfl (lv_at hl 0 rfl) ?_
  have j20 : ∀ (v9 : Int32) (hv9 : v9 = rE (0 ≤ x ∧ x ≤ (κ 0 0 - 1))) (ls : Array Slot), lv_has ls 2 [(0, .ref (ad 0)), (1, .int x)] → W p l e ({ frames := 1, cells := 0, slots := 0, locals := 22 } : Room) s m ([.ref (ad 0), .int x] : List Value).toArray below meth c s.heap [] 0 0 (MQ below (va_Qi (S := Unit) (fun rr _ => rr = bI (¬ (0 ≤ x ∧ x ≤ (κ 0 0 - 1)))) (fun _ t => va_P D.1 vwCl (MW D ad (rE (0 ≤ x ∧ x ≤ (κ 0 0 - 1))) κ) t.heap) (rA 8 ad s.heap.size)) ([.ref (ad 0), .int x] : List Value).toArray s 0 0 (rA 8 ad s.heap.size)) (F0 m 20 ls [.int v9, .ref (ad 0)]) := by
    intro v9 hv9 ls hl
    subst hv9
    refine s_miV (wd' := (MW D ad (rE (0 ≤ x ∧ x ≤ (κ 0 0 - 1))) κ)) (As := [.int (rE (0 ≤ x ∧ x ≤ (κ 0 0 - 1)))]) (rest := []) ⟨hx, hb, hml, hown, hts⟩ (c_X4_refused l D B ad rf κ s.heap.size (rE (0 ≤ x ∧ x ≤ (κ 0 0 - 1))) ) (cwV 1 hts gX4_noEntry_X4_refused rfl rfl rfl hdV_X4_refused ⟨Nat.le_of_ble_eq_true rfl, Nat.le_of_ble_eq_true rfl⟩) (sPVz hS.1 (ci := 4) (q0 := 0) rfl rfl) hS (MW_adr _ _ _ _) (MW_adr _ _ _ _) rfl hl.1 rfl (Nat.le_of_ble_eq_true rfl) dX4_noEntry_20 ⟨Nat.le_of_ble_eq_true rfl, Nat.le_of_ble_eq_true rfl⟩ (fun H locs hS => ?_)
    exact s_mzret hx hb hr hlk dX4_noEntry_23 (bI_or) (bI_congr (not_congr rE_0)) hS
  refine lv_iload_n hx hb dX4_noEntry_1 rfl (lv_at hl 1 rfl) ?_
  refine lv_iconst (v := 0) hx hb dX4_noEntry_2 (by decide +kernel) ?_
  refine lv_aload_n hx hb dX4_noEntry_3 rfl (lv_at hl 0 rfl) ?_
  refine g4_1 hx hb hts i4 hown hS.1 k42 dX4_noEntry_4 ?_
  refine lv_iconst (v := 1) hx hb dX4_noEntry_7 (by decide +kernel) ?_
  refine lv_isub hx hb dX4_noEntry_8 ?_
  refine s_ciS (As := [.int x, .int 0, .int ((κ 0 0) - 1)]) (rest := [.ref (ad 0)]) ⟨hx, hb, hml, hown, hts⟩ (c_X4_in l x 0 ((κ 0 0) - 1) ) (va_cwS 3 hts gX4_noEntry_X4_in rfl rfl rfl hdS_X4_in ⟨Nat.le_of_ble_eq_true rfl, Nat.le_of_ble_eq_true rfl⟩) sPS0 rfl hl.1 rfl (Nat.le_of_ble_eq_true rfl) dX4_noEntry_9 ⟨Nat.le_of_ble_eq_true rfl, Nat.le_of_ble_eq_true rfl⟩ ?_
  refine lv_if_eq (tgt := 19) hx hb dX4_noEntry_12 (by decide) (fun c12 => ?_) (fun c12 => ?_)
  ·
    replace c12 := bI_0.mp c12
    refine lv_iconst (v := 1) hx hb dX4_noEntry_19 (by decide +kernel) ?_
    exact j20 1 (rE_b c12) _ (lv_sub hl [0, 1] rfl)
  ·
    replace c12 := bI_n0.mp c12
    refine lv_iconst (v := 0) hx hb dX4_noEntry_15 (by decide +kernel) ?_
    refine lv_goto (tgt := 20) hx hb dX4_noEntry_16 (by decide) ?_
    exact j20 0 (rE_a c12) _ (lv_sub hl [0, 1] rfl)
set_option maxRecDepth 100000 in
set_option maxHeartbeats 4000000 in
theorem c_X4_speed (l : Launch) (D : sD) (B : Nat) (ad : Nat → Nat) (rf : Int32) (κ : sQ) (sz : Nat) (x : Int32) (n : Nat) (hn9 : κ 0 0 = nI n) (hn60 : n ≤ 60) : Met l yX4_speed wsX4_speed ({ frames := 2, cells := 0, slots := 0, locals := 43 } : Room) (sPz D B (MW D ad rf κ) sz ([.ref (ad 0), .int x] : List Value)) (va_Qi (S := Unit) (fun rr _ => rr = if 0 ≤ x ∧ x ≤ (κ 0 0 - 1) then tSp κ (iN x) else 0) (fun _ t => va_P D.1 vwCl (MW D ad (rE (0 ≤ x ∧ x ≤ (κ 0 0 - 1))) κ) t.heap) (rA 8 ad sz)) 0 0 (rA 8 ad sz) := by
  refine s_head (cc := cX4_speed) (maxL := 2) (ret := (some .int)) (by decide +kernel) rfl (Nat.le_of_ble_eq_true rfl) ?_
  intro p e s m below meth c hx hb hr hlk hml hown hnm hts hB0 ls hl
  obtain ⟨hsz, hJ⟩ := hB0
  have hown : s.vm.findClass RX4 = some m.cls := hown
  have hl : lv_has ls 2 [(0, .ref (ad 0)), (1, .int x)] := hl
  subst hsz
  have hS := sS.start hJ (MW_adr D ad rf κ)
  refine lv_aload_n hx hb dX4_speed_0 rfl (lv_at hl 0 rfl) ?_
  refine lv_iload_n hx hb dX4_speed_1 rfl (lv_at hl 1 rfl) ?_
  refine s_miV (wd' := (MW D ad (rE (0 ≤ x ∧ x ≤ (κ 0 0 - 1))) κ)) (As := [.int x]) (rest := []) ⟨hx, hb, hml, hown, hts⟩ (c_X4_noEntry l D B ad rf κ s.heap.size x ) (cwV 1 hts gX4_speed_X4_noEntry rfl rfl rfl hdV_X4_noEntry ⟨Nat.le_of_ble_eq_true rfl, Nat.le_of_ble_eq_true rfl⟩) (sPVz hS.1 (ci := 4) (q0 := 0) rfl rfl) hS (MW_adr _ _ _ _) (MW_adr _ _ _ _) rfl hl.1 rfl (Nat.le_of_ble_eq_true rfl) dX4_speed_2 ⟨Nat.le_of_ble_eq_true rfl, Nat.le_of_ble_eq_true rfl⟩ (fun H locs hS => ?_)
  refine lv_if_eq (tgt := 12) hx hb dX4_speed_5 (by decide) (fun c5 => ?_) (fun c5 => ?_)
  ·
    replace c5 := bI_0.mp c5
    have c5 := Decidable.not_not.mp c5
    obtain ⟨ex, hxn⟩ := ent_ok c5 hn9 hn60
    have hx60 : iN x < 60 := by omega
    refine lv_aload_n hx hb dX4_speed_12 rfl (lv_at hl 0 rfl) ?_
    refine lv_iload_n hx hb dX4_speed_13 rfl (lv_at hl 1 rfl) ?_
    refine s_ciV (As := [.int x]) (rest := []) ⟨hx, hb, hml, hown, hts⟩ (c_X4_trueSpeed l D B ad (rE (0 ≤ x ∧ x ≤ (κ 0 0 - 1))) κ x (iN x) (ex) (hx60)) (cwV 1 hts gX4_speed_X4_trueSpeed rfl rfl rfl hdV_X4_trueSpeed ⟨Nat.le_of_ble_eq_true rfl, Nat.le_of_ble_eq_true rfl⟩) (sPV hS.1 (ci := 4) (q0 := 0) rfl rfl) rfl hl.1 rfl (Nat.le_of_ble_eq_true rfl) dX4_speed_14 ⟨Nat.le_of_ble_eq_true rfl, Nat.le_of_ble_eq_true rfl⟩ ?_
    exact s_miret hx hb hr hlk dX4_speed_17 ((if_pos c5).symm) hS
  ·
    replace c5 := bI_n0.mp c5
    refine lv_iconst (v := 0) hx hb dX4_speed_8 (by decide +kernel) ?_
    refine lv_goto (tgt := 17) hx hb dX4_speed_9 (by decide) ?_
    exact s_miret hx hb hr hlk dX4_speed_17 ((if_neg c5).symm) hS
set_option maxRecDepth 100000 in
set_option maxHeartbeats 4000000 in
theorem c_X4_strength (l : Launch) (D : sD) (B : Nat) (ad : Nat → Nat) (rf : Int32) (κ : sQ) (sz : Nat) (x : Int32) (n : Nat) (hn9 : κ 0 0 = nI n) (hn60 : n ≤ 60) (hok : ∀ i, i < n → tOk κ i) : Met l yX4_strength wsX4_strength ({ frames := 5, cells := 0, slots := 0, locals := 111 } : Room) (sPz D B (MW D ad rf κ) sz ([.ref (ad 0), .int x] : List Value)) (va_Qi (S := Unit) (fun rr _ => rr = if 0 ≤ x ∧ x ≤ (κ 0 0 - 1) then tWs κ (iN x) else 0) (fun _ t => va_P D.1 vwCl (MW D ad (rE (0 ≤ x ∧ x ≤ (κ 0 0 - 1))) κ) t.heap) (rA 8 ad sz)) 0 0 (rA 8 ad sz) := by
  refine s_head (cc := cX4_strength) (maxL := 2) (ret := (some .int)) (by decide +kernel) rfl (Nat.le_of_ble_eq_true rfl) ?_
  intro p e s m below meth c hx hb hr hlk hml hown hnm hts hB0 ls hl
  obtain ⟨hsz, hJ⟩ := hB0
  have hown : s.vm.findClass RX4 = some m.cls := hown
  have hl : lv_has ls 2 [(0, .ref (ad 0)), (1, .int x)] := hl
  subst hsz
  have hS := sS.start hJ (MW_adr D ad rf κ)
  refine lv_aload_n hx hb dX4_strength_0 rfl (lv_at hl 0 rfl) ?_
  refine lv_iload_n hx hb dX4_strength_1 rfl (lv_at hl 1 rfl) ?_
  refine s_miV (wd' := (MW D ad (rE (0 ≤ x ∧ x ≤ (κ 0 0 - 1))) κ)) (As := [.int x]) (rest := []) ⟨hx, hb, hml, hown, hts⟩ (c_X4_noEntry l D B ad rf κ s.heap.size x ) (cwV 1 hts gX4_strength_X4_noEntry rfl rfl rfl hdV_X4_noEntry ⟨Nat.le_of_ble_eq_true rfl, Nat.le_of_ble_eq_true rfl⟩) (sPVz hS.1 (ci := 4) (q0 := 0) rfl rfl) hS (MW_adr _ _ _ _) (MW_adr _ _ _ _) rfl hl.1 rfl (Nat.le_of_ble_eq_true rfl) dX4_strength_2 ⟨Nat.le_of_ble_eq_true rfl, Nat.le_of_ble_eq_true rfl⟩ (fun H locs hS => ?_)
  refine lv_if_eq (tgt := 12) hx hb dX4_strength_5 (by decide) (fun c5 => ?_) (fun c5 => ?_)
  ·
    replace c5 := bI_0.mp c5
    have c5 := Decidable.not_not.mp c5
    obtain ⟨ex, hxn⟩ := ent_ok c5 hn9 hn60
    have hx60 : iN x < 60 := by omega
    refine lv_aload_n hx hb dX4_strength_12 rfl (lv_at hl 0 rfl) ?_
    refine lv_iload_n hx hb dX4_strength_13 rfl (lv_at hl 1 rfl) ?_
    refine s_ciV (As := [.int x]) (rest := []) ⟨hx, hb, hml, hown, hts⟩ (c_X4_strengthOf l D B ad (rE (0 ≤ x ∧ x ≤ (κ 0 0 - 1))) κ x (iN x) (ex) (hx60) (hok _ hxn)) (cwV 1 hts gX4_strength_X4_strengthOf rfl rfl rfl hdV_X4_strengthOf ⟨Nat.le_of_ble_eq_true rfl, Nat.le_of_ble_eq_true rfl⟩) (sPV hS.1 (ci := 4) (q0 := 0) rfl rfl) rfl hl.1 rfl (Nat.le_of_ble_eq_true rfl) dX4_strength_14 ⟨Nat.le_of_ble_eq_true rfl, Nat.le_of_ble_eq_true rfl⟩ ?_
    exact s_miret hx hb hr hlk dX4_strength_17 ((if_pos c5).symm) hS
  ·
    replace c5 := bI_n0.mp c5
    refine lv_iconst (v := 0) hx hb dX4_strength_8 (by decide +kernel) ?_
    refine lv_goto (tgt := 17) hx hb dX4_strength_9 (by decide) ?_
    exact s_miret hx hb hr hlk dX4_strength_17 ((if_neg c5).symm) hS
set_option maxRecDepth 100000 in
set_option maxHeartbeats 4000000 in
theorem c_X4_angle (l : Launch) (D : sD) (B : Nat) (ad : Nat → Nat) (rf : Int32) (κ : sQ) (sz : Nat) (x : Int32) (n : Nat) (hn9 : κ 0 0 = nI n) (hn60 : n ≤ 60) : Met l yX4_angle wsX4_angle ({ frames := 5, cells := 0, slots := 0, locals := 117 } : Room) (sPz D B (MW D ad rf κ) sz ([.ref (ad 0), .int x] : List Value)) (va_Qi (S := Unit) (fun rr _ => rr = if 0 ≤ x ∧ x ≤ (κ 0 0 - 1) then tWa κ (iN x) else 0) (fun _ t => va_P D.1 vwCl (MW D ad (rE (0 ≤ x ∧ x ≤ (κ 0 0 - 1))) κ) t.heap) (rA 8 ad sz)) 0 0 (rA 8 ad sz) := by
  refine s_head (cc := cX4_angle) (maxL := 2) (ret := (some .int)) (by decide +kernel) rfl (Nat.le_of_ble_eq_true rfl) ?_
  intro p e s m below meth c hx hb hr hlk hml hown hnm hts hB0 ls hl
  obtain ⟨hsz, hJ⟩ := hB0
  have hown : s.vm.findClass RX4 = some m.cls := hown
  have hl : lv_has ls 2 [(0, .ref (ad 0)), (1, .int x)] := hl
  subst hsz
  have hS := sS.start hJ (MW_adr D ad rf κ)
  refine lv_aload_n hx hb dX4_angle_0 rfl (lv_at hl 0 rfl) ?_
  refine lv_iload_n hx hb dX4_angle_1 rfl (lv_at hl 1 rfl) ?_
  refine s_miV (wd' := (MW D ad (rE (0 ≤ x ∧ x ≤ (κ 0 0 - 1))) κ)) (As := [.int x]) (rest := []) ⟨hx, hb, hml, hown, hts⟩ (c_X4_noEntry l D B ad rf κ s.heap.size x ) (cwV 1 hts gX4_angle_X4_noEntry rfl rfl rfl hdV_X4_noEntry ⟨Nat.le_of_ble_eq_true rfl, Nat.le_of_ble_eq_true rfl⟩) (sPVz hS.1 (ci := 4) (q0 := 0) rfl rfl) hS (MW_adr _ _ _ _) (MW_adr _ _ _ _) rfl hl.1 rfl (Nat.le_of_ble_eq_true rfl) dX4_angle_2 ⟨Nat.le_of_ble_eq_true rfl, Nat.le_of_ble_eq_true rfl⟩ (fun H locs hS => ?_)
  refine lv_if_eq (tgt := 12) hx hb dX4_angle_5 (by decide) (fun c5 => ?_) (fun c5 => ?_)
  ·
    replace c5 := bI_0.mp c5
    have c5 := Decidable.not_not.mp c5
    obtain ⟨ex, hxn⟩ := ent_ok c5 hn9 hn60
    have hx60 : iN x < 60 := by omega
    refine lv_aload_n hx hb dX4_angle_12 rfl (lv_at hl 0 rfl) ?_
    refine lv_iload_n hx hb dX4_angle_13 rfl (lv_at hl 1 rfl) ?_
    refine s_ciV (As := [.int x]) (rest := []) ⟨hx, hb, hml, hown, hts⟩ (c_X4_angleOf l D B ad (rE (0 ≤ x ∧ x ≤ (κ 0 0 - 1))) κ x (iN x) (ex) (hx60)) (cwV 1 hts gX4_angle_X4_angleOf rfl rfl rfl hdV_X4_angleOf ⟨Nat.le_of_ble_eq_true rfl, Nat.le_of_ble_eq_true rfl⟩) (sPV hS.1 (ci := 4) (q0 := 0) rfl rfl) rfl hl.1 rfl (Nat.le_of_ble_eq_true rfl) dX4_angle_14 ⟨Nat.le_of_ble_eq_true rfl, Nat.le_of_ble_eq_true rfl⟩ ?_
    exact s_miret hx hb hr hlk dX4_angle_17 ((if_pos c5).symm) hS
  ·
    replace c5 := bI_n0.mp c5
    refine lv_iconst (v := 0) hx hb dX4_angle_8 (by decide +kernel) ?_
    refine lv_goto (tgt := 17) hx hb dX4_angle_9 (by decide) ?_
    exact s_miret hx hb hr hlk dX4_angle_17 ((if_neg c5).symm) hS
set_option maxRecDepth 100000 in
set_option maxHeartbeats 4000000 in
theorem c_X4_side (l : Launch) (D : sD) (B : Nat) (ad : Nat → Nat) (rf : Int32) (κ : sQ) (sz : Nat) (x : Int32) (n : Nat) (hn9 : κ 0 0 = nI n) (hn60 : n ≤ 60) : Met l yX4_side wsX4_side ({ frames := 6, cells := 0, slots := 0, locals := 139 } : Room) (sPz D B (MW D ad rf κ) sz ([.ref (ad 0), .int x] : List Value)) (va_Qi (S := Unit) (fun rr _ => rr = if 0 ≤ x ∧ x ≤ (κ 0 0 - 1) then sdI (tWa κ (iN x)) else 0) (fun _ t => va_P D.1 vwCl (MW D ad (rE (0 ≤ x ∧ x ≤ (κ 0 0 - 1))) κ) t.heap) (rA 8 ad sz)) 0 0 (rA 8 ad sz) := by
  refine s_head (cc := cX4_side) (maxL := 2) (ret := (some .int)) (by decide +kernel) rfl (Nat.le_of_ble_eq_true rfl) ?_
  intro p e s m below meth c hx hb hr hlk hml hown hnm hts hB0 ls hl
  obtain ⟨hsz, hJ⟩ := hB0
  have hown : s.vm.findClass RX4 = some m.cls := hown
  have hl : lv_has ls 2 [(0, .ref (ad 0)), (1, .int x)] := hl
  subst hsz
  have hS := sS.start hJ (MW_adr D ad rf κ)
  refine lv_aload_n hx hb dX4_side_0 rfl (lv_at hl 0 rfl) ?_
  refine lv_iload_n hx hb dX4_side_1 rfl (lv_at hl 1 rfl) ?_
  refine s_miV (wd' := (MW D ad (rE (0 ≤ x ∧ x ≤ (κ 0 0 - 1))) κ)) (As := [.int x]) (rest := []) ⟨hx, hb, hml, hown, hts⟩ (c_X4_noEntry l D B ad rf κ s.heap.size x ) (cwV 1 hts gX4_side_X4_noEntry rfl rfl rfl hdV_X4_noEntry ⟨Nat.le_of_ble_eq_true rfl, Nat.le_of_ble_eq_true rfl⟩) (sPVz hS.1 (ci := 4) (q0 := 0) rfl rfl) hS (MW_adr _ _ _ _) (MW_adr _ _ _ _) rfl hl.1 rfl (Nat.le_of_ble_eq_true rfl) dX4_side_2 ⟨Nat.le_of_ble_eq_true rfl, Nat.le_of_ble_eq_true rfl⟩ (fun H locs hS => ?_)
  refine lv_if_eq (tgt := 12) hx hb dX4_side_5 (by decide) (fun c5 => ?_) (fun c5 => ?_)
  ·
    replace c5 := bI_0.mp c5
    have c5 := Decidable.not_not.mp c5
    obtain ⟨ex, hxn⟩ := ent_ok c5 hn9 hn60
    have hx60 : iN x < 60 := by omega
    refine lv_aload_n hx hb dX4_side_12 rfl (lv_at hl 0 rfl) ?_
    refine lv_iload_n hx hb dX4_side_13 rfl (lv_at hl 1 rfl) ?_
    refine s_ciV (As := [.int x]) (rest := []) ⟨hx, hb, hml, hown, hts⟩ (c_X4_sideOf l D B ad (rE (0 ≤ x ∧ x ≤ (κ 0 0 - 1))) κ x (iN x) (ex) (hx60)) (cwV 1 hts gX4_side_X4_sideOf rfl rfl rfl hdV_X4_sideOf ⟨Nat.le_of_ble_eq_true rfl, Nat.le_of_ble_eq_true rfl⟩) (sPV hS.1 (ci := 4) (q0 := 0) rfl rfl) rfl hl.1 rfl (Nat.le_of_ble_eq_true rfl) dX4_side_14 ⟨Nat.le_of_ble_eq_true rfl, Nat.le_of_ble_eq_true rfl⟩ ?_
    exact s_miret hx hb hr hlk dX4_side_17 ((if_pos c5).symm) hS
  ·
    replace c5 := bI_n0.mp c5
    refine lv_iconst (v := 0) hx hb dX4_side_8 (by decide +kernel) ?_
    refine lv_goto (tgt := 17) hx hb dX4_side_9 (by decide) ?_
    exact s_miret hx hb hr hlk dX4_side_17 ((if_neg c5).symm) hS
set_option maxRecDepth 100000 in
set_option maxHeartbeats 4000000 in
theorem c_X4_from (l : Launch) (D : sD) (B : Nat) (ad : Nat → Nat) (rf : Int32) (κ : sQ) (sz : Nat) (x : Int32) (n : Nat) (hn9 : κ 0 0 = nI n) (hn60 : n ≤ 60) : Met l yX4_from wsX4_from ({ frames := 5, cells := 0, slots := 0, locals := 117 } : Room) (sPz D B (MW D ad rf κ) sz ([.ref (ad 0), .int x] : List Value)) (va_Qi (S := Unit) (fun rr _ => rr = if 0 ≤ x ∧ x ≤ (κ 0 0 - 1) then t360 (tHd κ (iN x) + tWa κ (iN x)) else 0) (fun _ t => va_P D.1 vwCl (MW D ad (rE (0 ≤ x ∧ x ≤ (κ 0 0 - 1))) κ) t.heap) (rA 8 ad sz)) 0 0 (rA 8 ad sz) := by
  refine s_head (cc := cX4_from) (maxL := 2) (ret := (some .int)) (by decide +kernel) rfl (Nat.le_of_ble_eq_true rfl) ?_
  intro p e s m below meth c hx hb hr hlk hml hown hnm hts hB0 ls hl
  obtain ⟨hsz, hJ⟩ := hB0
  have hown : s.vm.findClass RX4 = some m.cls := hown
  have hl : lv_has ls 2 [(0, .ref (ad 0)), (1, .int x)] := hl
  subst hsz
  have hS := sS.start hJ (MW_adr D ad rf κ)
  refine lv_aload_n hx hb dX4_from_0 rfl (lv_at hl 0 rfl) ?_
  refine lv_iload_n hx hb dX4_from_1 rfl (lv_at hl 1 rfl) ?_
  refine s_miV (wd' := (MW D ad (rE (0 ≤ x ∧ x ≤ (κ 0 0 - 1))) κ)) (As := [.int x]) (rest := []) ⟨hx, hb, hml, hown, hts⟩ (c_X4_noEntry l D B ad rf κ s.heap.size x ) (cwV 1 hts gX4_from_X4_noEntry rfl rfl rfl hdV_X4_noEntry ⟨Nat.le_of_ble_eq_true rfl, Nat.le_of_ble_eq_true rfl⟩) (sPVz hS.1 (ci := 4) (q0 := 0) rfl rfl) hS (MW_adr _ _ _ _) (MW_adr _ _ _ _) rfl hl.1 rfl (Nat.le_of_ble_eq_true rfl) dX4_from_2 ⟨Nat.le_of_ble_eq_true rfl, Nat.le_of_ble_eq_true rfl⟩ (fun H locs hS => ?_)
  refine lv_if_eq (tgt := 12) hx hb dX4_from_5 (by decide) (fun c5 => ?_) (fun c5 => ?_)
  ·
    replace c5 := bI_0.mp c5
    have c5 := Decidable.not_not.mp c5
    obtain ⟨ex, hxn⟩ := ent_ok c5 hn9 hn60
    have hx60 : iN x < 60 := by omega
    refine lv_aload_n hx hb dX4_from_12 rfl (lv_at hl 0 rfl) ?_
    refine lv_iload_n hx hb dX4_from_13 rfl (lv_at hl 1 rfl) ?_
    refine s_ciV (As := [.int x]) (rest := []) ⟨hx, hb, hml, hown, hts⟩ (c_X4_trueHeading l D B ad (rE (0 ≤ x ∧ x ≤ (κ 0 0 - 1))) κ x (iN x) (ex) (hx60)) (cwV 1 hts gX4_from_X4_trueHeading rfl rfl rfl hdV_X4_trueHeading ⟨Nat.le_of_ble_eq_true rfl, Nat.le_of_ble_eq_true rfl⟩) (sPV hS.1 (ci := 4) (q0 := 0) rfl rfl) rfl hl.1 rfl (Nat.le_of_ble_eq_true rfl) dX4_from_14 ⟨Nat.le_of_ble_eq_true rfl, Nat.le_of_ble_eq_true rfl⟩ ?_
    refine lv_aload_n hx hb dX4_from_17 rfl (lv_at hl 0 rfl) ?_
    refine lv_iload_n hx hb dX4_from_18 rfl (lv_at hl 1 rfl) ?_
    refine s_ciV (As := [.int x]) (rest := [.int (tHd κ (iN x))]) ⟨hx, hb, hml, hown, hts⟩ (c_X4_angleOf l D B ad (rE (0 ≤ x ∧ x ≤ (κ 0 0 - 1))) κ x (iN x) (ex) (hx60)) (cwV 1 hts gX4_from_X4_angleOf rfl rfl rfl hdV_X4_angleOf ⟨Nat.le_of_ble_eq_true rfl, Nat.le_of_ble_eq_true rfl⟩) (sPV hS.1 (ci := 4) (q0 := 0) rfl rfl) rfl hl.1 rfl (Nat.le_of_ble_eq_true rfl) dX4_from_19 ⟨Nat.le_of_ble_eq_true rfl, Nat.le_of_ble_eq_true rfl⟩ ?_
    refine lv_iadd hx hb dX4_from_22 ?_
    refine s_ciS (As := [.int ((tHd κ (iN x)) + (tWa κ (iN x)))]) (rest := []) ⟨hx, hb, hml, hown, hts⟩ (c_X4_turned l ((tHd κ (iN x)) + (tWa κ (iN x))) ) (va_cwS 1 hts gX4_from_X4_turned rfl rfl rfl hdS_X4_turned ⟨Nat.le_of_ble_eq_true rfl, Nat.le_of_ble_eq_true rfl⟩) sPS0 rfl hl.1 rfl (Nat.le_of_ble_eq_true rfl) dX4_from_23 ⟨Nat.le_of_ble_eq_true rfl, Nat.le_of_ble_eq_true rfl⟩ ?_
    exact s_miret hx hb hr hlk dX4_from_26 ((if_pos c5).symm) hS
  ·
    replace c5 := bI_n0.mp c5
    refine lv_iconst (v := 0) hx hb dX4_from_8 (by decide +kernel) ?_
    refine lv_goto (tgt := 26) hx hb dX4_from_9 (by decide) ?_
    exact s_miret hx hb hr hlk dX4_from_26 ((if_neg c5).symm) hS
set_option maxRecDepth 100000 in
set_option maxHeartbeats 4000000 in
theorem c_X4_turn (l : Launch) (D : sD) (B : Nat) (ad : Nat → Nat) (rf : Int32) (κ : sQ) (sz : Nat) (x : Int32) (n : Nat) (hn9 : κ 0 0 = nI n) (hn60 : n ≤ 60) : Met l yX4_turn wsX4_turn ({ frames := 7, cells := 0, slots := 0, locals := 162 } : Room) (sPz D B (MW D ad rf κ) sz ([.ref (ad 0), .int x] : List Value)) (va_Qi (S := Unit) (fun rr _ => rr = if 0 ≤ x ∧ x ≤ (κ 0 0 - 1) then kindF (tWa κ) (iN x) else 0) (fun _ t => va_P D.1 vwCl (MW D ad (rE (0 ≤ x ∧ x ≤ (κ 0 0 - 1))) κ) t.heap) (rA 8 ad sz)) 0 0 (rA 8 ad sz) := by
  refine s_head (cc := cX4_turn) (maxL := 2) (ret := (some .int)) (by decide +kernel) rfl (Nat.le_of_ble_eq_true rfl) ?_
  intro p e s m below meth c hx hb hr hlk hml hown hnm hts hB0 ls hl
  obtain ⟨hsz, hJ⟩ := hB0
  have hown : s.vm.findClass RX4 = some m.cls := hown
  have hl : lv_has ls 2 [(0, .ref (ad 0)), (1, .int x)] := hl
  subst hsz
  have hS := sS.start hJ (MW_adr D ad rf κ)
  refine lv_aload_n hx hb dX4_turn_0 rfl (lv_at hl 0 rfl) ?_
  refine lv_iload_n hx hb dX4_turn_1 rfl (lv_at hl 1 rfl) ?_
  refine s_miV (wd' := (MW D ad (rE (0 ≤ x ∧ x ≤ (κ 0 0 - 1))) κ)) (As := [.int x]) (rest := []) ⟨hx, hb, hml, hown, hts⟩ (c_X4_noEntry l D B ad rf κ s.heap.size x ) (cwV 1 hts gX4_turn_X4_noEntry rfl rfl rfl hdV_X4_noEntry ⟨Nat.le_of_ble_eq_true rfl, Nat.le_of_ble_eq_true rfl⟩) (sPVz hS.1 (ci := 4) (q0 := 0) rfl rfl) hS (MW_adr _ _ _ _) (MW_adr _ _ _ _) rfl hl.1 rfl (Nat.le_of_ble_eq_true rfl) dX4_turn_2 ⟨Nat.le_of_ble_eq_true rfl, Nat.le_of_ble_eq_true rfl⟩ (fun H locs hS => ?_)
  refine lv_if_eq (tgt := 12) hx hb dX4_turn_5 (by decide) (fun c5 => ?_) (fun c5 => ?_)
  ·
    replace c5 := bI_0.mp c5
    have c5 := Decidable.not_not.mp c5
    obtain ⟨ex, hxn⟩ := ent_ok c5 hn9 hn60
    have hx60 : iN x < 60 := by omega
    refine lv_aload_n hx hb dX4_turn_12 rfl (lv_at hl 0 rfl) ?_
    refine lv_iload_n hx hb dX4_turn_13 rfl (lv_at hl 1 rfl) ?_
    refine s_ciV (As := [.int x]) (rest := []) ⟨hx, hb, hml, hown, hts⟩ (c_X4_turnOf l D B ad (rE (0 ≤ x ∧ x ≤ (κ 0 0 - 1))) κ x (iN x) (ex) (hx60)) (cwV 1 hts gX4_turn_X4_turnOf rfl rfl rfl hdV_X4_turnOf ⟨Nat.le_of_ble_eq_true rfl, Nat.le_of_ble_eq_true rfl⟩) (sPV hS.1 (ci := 4) (q0 := 0) rfl rfl) rfl hl.1 rfl (Nat.le_of_ble_eq_true rfl) dX4_turn_14 ⟨Nat.le_of_ble_eq_true rfl, Nat.le_of_ble_eq_true rfl⟩ ?_
    exact s_miret hx hb hr hlk dX4_turn_17 ((if_pos c5).symm) hS
  ·
    replace c5 := bI_n0.mp c5
    refine lv_iconst (v := 0) hx hb dX4_turn_8 (by decide +kernel) ?_
    refine lv_goto (tgt := 17) hx hb dX4_turn_9 (by decide) ?_
    exact s_miret hx hb hr hlk dX4_turn_17 ((if_neg c5).symm) hS
set_option maxRecDepth 100000 in
set_option maxHeartbeats 4000000 in
theorem c_X4_east (l : Launch) (D : sD) (B : Nat) (ad : Nat → Nat) (rf : Int32) (κ : sQ) (sz : Nat) (x : Int32) (n : Nat) (hn9 : κ 0 0 = nI n) (hn60 : n ≤ 60) (hmi : ∀ i, i < n → ∃ k, k < 1440 ∧ κ 1 i = nI k) : Met l yX4_east wsX4_east ({ frames := 3, cells := 0, slots := 0, locals := 73 } : Room) (sPz D B (MW D ad rf κ) sz ([.ref (ad 0), .int x] : List Value)) (va_Qi (S := Unit) (fun rr _ => rr = if 0 ≤ x ∧ x ≤ (κ 0 0 - 1) then (wD (wayS (κ 1) (tSp κ) (tHd κ) (κ 6) (κ 7) 0 (iN x))).toInt32 else 0) (fun _ t => va_P D.1 vwCl (MW D ad (rE (0 ≤ x ∧ x ≤ (κ 0 0 - 1))) κ) t.heap) (rA 8 ad sz)) 0 0 (rA 8 ad sz) := by
  refine s_head (cc := cX4_east) (maxL := 2) (ret := (some .int)) (by decide +kernel) rfl (Nat.le_of_ble_eq_true rfl) ?_
  intro p e s m below meth c hx hb hr hlk hml hown hnm hts hB0 ls hl
  obtain ⟨hsz, hJ⟩ := hB0
  have hown : s.vm.findClass RX4 = some m.cls := hown
  have hl : lv_has ls 2 [(0, .ref (ad 0)), (1, .int x)] := hl
  subst hsz
  have hS := sS.start hJ (MW_adr D ad rf κ)
  refine lv_aload_n hx hb dX4_east_0 rfl (lv_at hl 0 rfl) ?_
  refine lv_iload_n hx hb dX4_east_1 rfl (lv_at hl 1 rfl) ?_
  refine s_miV (wd' := (MW D ad (rE (0 ≤ x ∧ x ≤ (κ 0 0 - 1))) κ)) (As := [.int x]) (rest := []) ⟨hx, hb, hml, hown, hts⟩ (c_X4_noEntry l D B ad rf κ s.heap.size x ) (cwV 1 hts gX4_east_X4_noEntry rfl rfl rfl hdV_X4_noEntry ⟨Nat.le_of_ble_eq_true rfl, Nat.le_of_ble_eq_true rfl⟩) (sPVz hS.1 (ci := 4) (q0 := 0) rfl rfl) hS (MW_adr _ _ _ _) (MW_adr _ _ _ _) rfl hl.1 rfl (Nat.le_of_ble_eq_true rfl) dX4_east_2 ⟨Nat.le_of_ble_eq_true rfl, Nat.le_of_ble_eq_true rfl⟩ (fun H locs hS => ?_)
  refine lv_if_eq (tgt := 12) hx hb dX4_east_5 (by decide) (fun c5 => ?_) (fun c5 => ?_)
  ·
    replace c5 := bI_0.mp c5
    have c5 := Decidable.not_not.mp c5
    obtain ⟨ex, hxn⟩ := ent_ok c5 hn9 hn60
    have hx60 : iN x < 60 := by omega
    refine lv_aload_n hx hb dX4_east_12 rfl (lv_at hl 0 rfl) ?_
    refine lv_iload_n hx hb dX4_east_13 rfl (lv_at hl 1 rfl) ?_
    refine lv_iconst (v := 0) hx hb dX4_east_14 (by decide +kernel) ?_
    refine s_ciV (As := [.int x, .int 0]) (rest := []) ⟨hx, hb, hml, hown, hts⟩ (c_X4_way l D B ad (rE (0 ≤ x ∧ x ≤ (κ 0 0 - 1))) κ x 0 n (iN x) (by assumption) (by assumption) (ex) (hxn) (by assumption)) (cwV 2 hts gX4_east_X4_way rfl rfl rfl hdV_X4_way ⟨Nat.le_of_ble_eq_true rfl, Nat.le_of_ble_eq_true rfl⟩) (sPV hS.1 (ci := 4) (q0 := 0) rfl rfl) rfl hl.1 rfl (Nat.le_of_ble_eq_true rfl) dX4_east_15 ⟨Nat.le_of_ble_eq_true rfl, Nat.le_of_ble_eq_true rfl⟩ ?_
    exact s_miret hx hb hr hlk dX4_east_18 ((if_pos c5).symm) hS
  ·
    replace c5 := bI_n0.mp c5
    refine lv_iconst (v := 0) hx hb dX4_east_8 (by decide +kernel) ?_
    refine lv_goto (tgt := 18) hx hb dX4_east_9 (by decide) ?_
    exact s_miret hx hb hr hlk dX4_east_18 ((if_neg c5).symm) hS
set_option maxRecDepth 100000 in
set_option maxHeartbeats 4000000 in
theorem c_X4_north (l : Launch) (D : sD) (B : Nat) (ad : Nat → Nat) (rf : Int32) (κ : sQ) (sz : Nat) (x : Int32) (n : Nat) (hn9 : κ 0 0 = nI n) (hn60 : n ≤ 60) (hmi : ∀ i, i < n → ∃ k, k < 1440 ∧ κ 1 i = nI k) : Met l yX4_north wsX4_north ({ frames := 3, cells := 0, slots := 0, locals := 73 } : Room) (sPz D B (MW D ad rf κ) sz ([.ref (ad 0), .int x] : List Value)) (va_Qi (S := Unit) (fun rr _ => rr = if 0 ≤ x ∧ x ≤ (κ 0 0 - 1) then (wD (wayS (κ 1) (tSp κ) (tHd κ) (κ 6) (κ 7) 90 (iN x))).toInt32 else 0) (fun _ t => va_P D.1 vwCl (MW D ad (rE (0 ≤ x ∧ x ≤ (κ 0 0 - 1))) κ) t.heap) (rA 8 ad sz)) 0 0 (rA 8 ad sz) := by
  refine s_head (cc := cX4_north) (maxL := 2) (ret := (some .int)) (by decide +kernel) rfl (Nat.le_of_ble_eq_true rfl) ?_
  intro p e s m below meth c hx hb hr hlk hml hown hnm hts hB0 ls hl
  obtain ⟨hsz, hJ⟩ := hB0
  have hown : s.vm.findClass RX4 = some m.cls := hown
  have hl : lv_has ls 2 [(0, .ref (ad 0)), (1, .int x)] := hl
  subst hsz
  have hS := sS.start hJ (MW_adr D ad rf κ)
  refine lv_aload_n hx hb dX4_north_0 rfl (lv_at hl 0 rfl) ?_
  refine lv_iload_n hx hb dX4_north_1 rfl (lv_at hl 1 rfl) ?_
  refine s_miV (wd' := (MW D ad (rE (0 ≤ x ∧ x ≤ (κ 0 0 - 1))) κ)) (As := [.int x]) (rest := []) ⟨hx, hb, hml, hown, hts⟩ (c_X4_noEntry l D B ad rf κ s.heap.size x ) (cwV 1 hts gX4_north_X4_noEntry rfl rfl rfl hdV_X4_noEntry ⟨Nat.le_of_ble_eq_true rfl, Nat.le_of_ble_eq_true rfl⟩) (sPVz hS.1 (ci := 4) (q0 := 0) rfl rfl) hS (MW_adr _ _ _ _) (MW_adr _ _ _ _) rfl hl.1 rfl (Nat.le_of_ble_eq_true rfl) dX4_north_2 ⟨Nat.le_of_ble_eq_true rfl, Nat.le_of_ble_eq_true rfl⟩ (fun H locs hS => ?_)
  refine lv_if_eq (tgt := 12) hx hb dX4_north_5 (by decide) (fun c5 => ?_) (fun c5 => ?_)
  ·
    replace c5 := bI_0.mp c5
    have c5 := Decidable.not_not.mp c5
    obtain ⟨ex, hxn⟩ := ent_ok c5 hn9 hn60
    have hx60 : iN x < 60 := by omega
    refine lv_aload_n hx hb dX4_north_12 rfl (lv_at hl 0 rfl) ?_
    refine lv_iload_n hx hb dX4_north_13 rfl (lv_at hl 1 rfl) ?_
    refine lv_bipush (v := 90) hx hb dX4_north_14 (by decide +kernel) ?_
    refine s_ciV (As := [.int x, .int 90]) (rest := []) ⟨hx, hb, hml, hown, hts⟩ (c_X4_way l D B ad (rE (0 ≤ x ∧ x ≤ (κ 0 0 - 1))) κ x 90 n (iN x) (by assumption) (by assumption) (ex) (hxn) (by assumption)) (cwV 2 hts gX4_north_X4_way rfl rfl rfl hdV_X4_way ⟨Nat.le_of_ble_eq_true rfl, Nat.le_of_ble_eq_true rfl⟩) (sPV hS.1 (ci := 4) (q0 := 0) rfl rfl) rfl hl.1 rfl (Nat.le_of_ble_eq_true rfl) dX4_north_16 ⟨Nat.le_of_ble_eq_true rfl, Nat.le_of_ble_eq_true rfl⟩ ?_
    exact s_miret hx hb hr hlk dX4_north_19 ((if_pos c5).symm) hS
  ·
    replace c5 := bI_n0.mp c5
    refine lv_iconst (v := 0) hx hb dX4_north_8 (by decide +kernel) ?_
    refine lv_goto (tgt := 19) hx hb dX4_north_9 (by decide) ?_
    exact s_miret hx hb hr hlk dX4_north_19 ((if_neg c5).symm) hS
set_option maxRecDepth 100000 in
set_option maxHeartbeats 4000000 in
theorem c_X4_cost (l : Launch) (D : sD) (B : Nat) (ad : Nat → Nat) (rf : Int32) (κ : sQ) (sz : Nat) (x : Int32) (n : Nat) (hn9 : κ 0 0 = nI n) (hn60 : n ≤ 60) : Met l yX4_cost wsX4_cost ({ frames := 7, cells := 0, slots := 0, locals := 162 } : Room) (sPz D B (MW D ad rf κ) sz ([.ref (ad 0), .int x] : List Value)) (va_Qi (S := Unit) (fun rr _ => rr = if 0 ≤ x ∧ x ≤ (κ 0 0 - 1) then lossF (tWa κ) (κ 1) (tSp κ) n (iN x) else 0) (fun _ t => va_P D.1 vwCl (MW D ad (rE (0 ≤ x ∧ x ≤ (κ 0 0 - 1))) κ) t.heap) (rA 8 ad sz)) 0 0 (rA 8 ad sz) := by
  refine s_head (cc := cX4_cost) (maxL := 2) (ret := (some .int)) (by decide +kernel) rfl (Nat.le_of_ble_eq_true rfl) ?_
  intro p e s m below meth c hx hb hr hlk hml hown hnm hts hB0 ls hl
  obtain ⟨hsz, hJ⟩ := hB0
  have hown : s.vm.findClass RX4 = some m.cls := hown
  have hl : lv_has ls 2 [(0, .ref (ad 0)), (1, .int x)] := hl
  subst hsz
  have hS := sS.start hJ (MW_adr D ad rf κ)
  refine lv_aload_n hx hb dX4_cost_0 rfl (lv_at hl 0 rfl) ?_
  refine lv_iload_n hx hb dX4_cost_1 rfl (lv_at hl 1 rfl) ?_
  refine s_miV (wd' := (MW D ad (rE (0 ≤ x ∧ x ≤ (κ 0 0 - 1))) κ)) (As := [.int x]) (rest := []) ⟨hx, hb, hml, hown, hts⟩ (c_X4_noEntry l D B ad rf κ s.heap.size x ) (cwV 1 hts gX4_cost_X4_noEntry rfl rfl rfl hdV_X4_noEntry ⟨Nat.le_of_ble_eq_true rfl, Nat.le_of_ble_eq_true rfl⟩) (sPVz hS.1 (ci := 4) (q0 := 0) rfl rfl) hS (MW_adr _ _ _ _) (MW_adr _ _ _ _) rfl hl.1 rfl (Nat.le_of_ble_eq_true rfl) dX4_cost_2 ⟨Nat.le_of_ble_eq_true rfl, Nat.le_of_ble_eq_true rfl⟩ (fun H locs hS => ?_)
  refine lv_if_ne (tgt := 16) hx hb dX4_cost_5 (by decide) (fun c5 => ?_) (fun c5 => ?_)
  ·
    replace c5 := bI_n0.mp c5
    refine lv_iconst (v := 0) hx hb dX4_cost_16 (by decide +kernel) ?_
    refine lv_goto (tgt := 25) hx hb dX4_cost_17 (by decide) ?_
    exact s_miret hx hb hr hlk dX4_cost_25 ((if_neg c5).symm) hS
  ·
    replace c5 := bI_0.mp c5
    have c5 := Decidable.not_not.mp c5
    obtain ⟨ex, hxn⟩ := ent_ok c5 hn9 hn60
    have hx60 : iN x < 60 := by omega
    refine lv_aload_n hx hb dX4_cost_8 rfl (lv_at hl 0 rfl) ?_
    refine lv_iload_n hx hb dX4_cost_9 rfl (lv_at hl 1 rfl) ?_
    refine s_ciV (As := [.int x]) (rest := []) ⟨hx, hb, hml, hown, hts⟩ (c_X4_turnOf l D B ad (rE (0 ≤ x ∧ x ≤ (κ 0 0 - 1))) κ x (iN x) (ex) (hx60)) (cwV 1 hts gX4_cost_X4_turnOf rfl rfl rfl hdV_X4_turnOf ⟨Nat.le_of_ble_eq_true rfl, Nat.le_of_ble_eq_true rfl⟩) (sPV hS.1 (ci := 4) (q0 := 0) rfl rfl) rfl hl.1 rfl (Nat.le_of_ble_eq_true rfl) dX4_cost_10 ⟨Nat.le_of_ble_eq_true rfl, Nat.le_of_ble_eq_true rfl⟩ ?_
    refine lv_if_ne (tgt := 20) hx hb dX4_cost_13 (by decide) (fun c13 => ?_) (fun c13 => ?_)
    ·
      have hi1 := kind_pos c13
      refine lv_aload_n hx hb dX4_cost_20 rfl (lv_at hl 0 rfl) ?_
      refine lv_iload_n hx hb dX4_cost_21 rfl (lv_at hl 1 rfl) ?_
      refine s_ciV (As := [.int x]) (rest := []) ⟨hx, hb, hml, hown, hts⟩ (c_X4_costOf l D B ad (rE (0 ≤ x ∧ x ≤ (κ 0 0 - 1))) κ x (iN x) n (by assumption) (by assumption) (ex) (hxn) (hi1)) (cwV 1 hts gX4_cost_X4_costOf rfl rfl rfl hdV_X4_costOf ⟨Nat.le_of_ble_eq_true rfl, Nat.le_of_ble_eq_true rfl⟩) (sPV hS.1 (ci := 4) (q0 := 0) rfl rfl) rfl hl.1 rfl (Nat.le_of_ble_eq_true rfl) dX4_cost_22 ⟨Nat.le_of_ble_eq_true rfl, Nat.le_of_ble_eq_true rfl⟩ ?_
      exact s_miret hx hb hr hlk dX4_cost_25 (by rw [if_pos c5]; exact loss_y c13) hS
    ·
      refine lv_iconst (v := 0) hx hb dX4_cost_16 (by decide +kernel) ?_
      refine lv_goto (tgt := 25) hx hb dX4_cost_17 (by decide) ?_
      exact s_miret hx hb hr hlk dX4_cost_25 (by rw [if_pos c5]; exact loss_0 c13) hS
