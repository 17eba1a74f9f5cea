/-! ===== one act ===== -/
section SLaw4
def ZC (D : sD) (zc : Nat) (zf : Nat → Int32) : Nat × va_E := (zc, .inl (D.2.1, 1, .inl zf))
theorem CZ_z (D : sD) (ad : Nat → Nat) (κ : sQ) (zc : Nat) (zf : Nat → Int32) : (CW D ad κ ++ [ZC D zc zf])[68]? = some (zc, .inl (D.2.1, 1, .inl zf)) := by
  rw [List.getElem?_append_right (by rw [CW_len]; omega), CW_len]
  rfl
theorem z_ld {p : Program} {l : Launch} {e : Env} {R : Room} {s : State} {m : MethodId} {args : Array Value} {below : List Frame} {meth : Method} {c : Code} {H : Heap} {locs : List Loc} {cells slots : Nat} {Q : State → Prop} {cc : ByteArray} {pc : Nat} {ls : Array Slot} {rest : List Value} {D : sD} {B : Nat} {ad : Nat → Nat} {κ : sQ} {zc : Nat} {zf : Nat → Int32} (hx : p.tables.exec = Jvm.exec) (hb : c.code = cc) (hJ : sJ D B (CW D ad κ ++ [ZC D zc zf]) s H) (hdg : decode cc pc = .ok (.iaload, 1)) (kk : W p l e R s m args below meth c H locs cells slots Q (F0 m (pc + 1) ls (.int (zf 0) :: rest))) : W p l e R s m args below meth c H locs cells slots Q (F0 m pc ls (.int 0 :: .ref zc :: rest)) :=
  va_iald (D := D.1) (cl := vwCl) (tys := sTys D) hx hb hJ.2.2.2.1.1 hJ.1 68 0 (CZ_z D ad κ zc zf) rfl (fun q => q.elim (by decide +kernel) (by decide +kernel)) hdg kk
set_option maxRecDepth 100000 in
set_option maxHeartbeats 4000000 in
theorem c_L_act (l : Launch) (hfl : l.flags = flags0) (D : sD) (B : Nat) (ad : Nat → Nat) (κ : sQ) (sz : Nat) (zc : Nat) (zf : Nat → Int32) (k mm : Nat) (hk : k < 2 ^ 31) (hmm : mm < 360) (τ : sQ) (n : Nat) (hR : sRel κ τ n) : vx_Met l yL_act wsL_act ({ frames := 9, cells := 6, slots := 36, locals := 164 } : Room) (sPz D B (CW D ad κ ++ [ZC D zc zf]) sz ([.ref (ad 0), .ref zc, .int (nI k), .int (nI mm)] : List Value)) (va_Qi (S := Unit) (fun rr _ => rr = acV κ n (zf 0) k mm) (fun _ t => va_P D.1 vwCl (CW D ad (acK κ n (zf 0) k mm)) t.heap) (rA 68 ad sz)) (fun _ _ _ => False) 6 36 (rA 68 ad sz) := by
  refine s_headX (cc := cL_act) (maxL := 5) (ret := (some .int)) (by decide +kernel) rfl (Nat.le_of_ble_eq_true rfl) ?_
  intro p e s m below meth c hx hb hr hlk hml hown hno hts hB0 ls hl
  obtain ⟨hsz, hJ⟩ := hB0
  subst hsz
  have hown : s.vm.findClass RL = some m.cls := hown
  have hl : lv_has ls 5 [(0, .ref (ad 0)), (1, .ref zc), (2, .int (nI k)), (3, .int (nI mm))] := hl
  have hS := rS.start (n := 68) (ad := ad) hJ
  have hAd : ∀ k, k < 68 → rA 68 ad s.heap.size (ad k) := fun k hk => Or.inl ⟨k, hk, rfl⟩
  refine lv_iload_n hx hb dL_act_0 rfl (lv_at hl 2 rfl) ?_
  refine lv_bipush (v := 8) hx hb dL_act_1 (by decide +kernel) ?_
  refine lv_idiv hx hb dL_act_3 (by decide +kernel) ?_
  refine lv_topi (fun zz ezz => ?_)
  obtain rfl : zz = nI (k / 8) := ezz.trans (div_k (by decide +kernel) (by omega) (by omega))
  refine lv_istore (lv' := [(4, .int (nI (k / 8))), (0, .ref (ad 0)), (1, .ref zc), (2, .int (nI k)), (3, .int (nI mm))]) hx hb dL_act_4 hl (by decide) rfl (fun ls hl => ?_)
  refine lv_iload_n hx hb dL_act_6 rfl (lv_at hl 3 rfl) ?_
  refine lv_bipush (v := 8) hx hb dL_act_7 (by decide +kernel) ?_
  refine lv_irem hx hb dL_act_9 (by decide +kernel) ?_
  refine lv_topi (fun zz ezz => ?_)
  obtain rfl : zz = nI (k % 8) := ezz.trans (rem_k (by decide +kernel) (by omega) (by omega))
  have hk8 : k % 8 = 0 ∨ k % 8 = 1 ∨ k % 8 = 2 ∨ 3 ≤ k % 8 := by omega
  rcases hk8 with h8 | h8 | h8 | h8
  · have e8 : (nI (k % 8)).toInt = 0 := by rw [h8]; decide +kernel
    refine lv_tableIn (off := 26) (tgt := 36) hx hb dL_act_10 (by omega) (by omega) (by rw [e8]; rfl) (by decide) ?_
    refine lv_aload_n hx hb dL_act_36 rfl (lv_at hl 1 rfl) ?_
    refine lv_sipush (v := 500) hx hb dL_act_37 (by decide +kernel) ?_
    refine lv_iload hx hb dL_act_40 (lv_at hl 0 rfl) ?_
    refine lv_sipush (v := 1001) hx hb dL_act_42 (by decide +kernel) ?_
    refine lv_irem hx hb dL_act_45 (by decide +kernel) ?_
    refine lv_topi (fun zz ezz => ?_)
    obtain rfl : zz = nI ((k / 8) % 1001) := ezz.trans (rem_k (by decide +kernel) (by omega) (by omega))
    refine lv_iadd hx hb dL_act_46 ?_
    refine lv_topi (fun zz ezz => ?_)
    obtain rfl : zz = nI (500 + ((k / 8) % 1001)) := ezz.trans (add_l (by decide +kernel))
    refine lv_iload hx hb dL_act_47 (lv_at hl 0 rfl) ?_
    refine lv_bipush (v := 7) hx hb dL_act_49 (by decide +kernel) ?_
    refine lv_idiv hx hb dL_act_51 (by decide +kernel) ?_
    refine lv_topi (fun zz ezz => ?_)
    obtain rfl : zz = nI ((k / 8) / 7) := ezz.trans (div_k (by decide +kernel) (by omega) (by omega))
    refine lv_bipush (v := 41) hx hb dL_act_52 (by decide +kernel) ?_
    refine lv_irem hx hb dL_act_54 (by decide +kernel) ?_
    refine lv_topi (fun zz ezz => ?_)
    obtain rfl : zz = nI (((k / 8) / 7) % 41) := ezz.trans (rem_k (by decide +kernel) (by omega) (by omega))
    refine lv_bipush (v := 20) hx hb dL_act_55 (by decide +kernel) ?_
    refine lv_isub hx hb dL_act_57 ?_
    refine lv_iload hx hb dL_act_58 (lv_at hl 0 rfl) ?_
    refine lv_sipush (v := 287) hx hb dL_act_60 (by decide +kernel) ?_
    refine lv_idiv hx hb dL_act_63 (by decide +kernel) ?_
    refine lv_topi (fun zz ezz => ?_)
    obtain rfl : zz = nI ((k / 8) / 287) := ezz.trans (div_k (by decide +kernel) (by omega) (by omega))
    refine lv_bipush (v := 41) hx hb dL_act_64 (by decide +kernel) ?_
    refine lv_irem hx hb dL_act_66 (by decide +kernel) ?_
    refine lv_topi (fun zz ezz => ?_)
    obtain rfl : zz = nI (((k / 8) / 287) % 41) := ezz.trans (rem_k (by decide +kernel) (by omega) (by omega))
    refine lv_bipush (v := 20) hx hb dL_act_67 (by decide +kernel) ?_
    refine lv_isub hx hb dL_act_69 ?_
    refine l_mt (vx_runSX (hh := [(0, 7, 8, 13)]) (As := [.ref (ad 0), .int (nI (500 + ((k / 8) % 1001))), .int ((nI (((k / 8) / 7) % 41)) - 20), .int ((nI (((k / 8) / 287) % 41)) - 20)]) (rest := []) ⟨hx, hb, hml, hown, hts⟩ (h_faults l hfl D B ad κ s.heap.size (nI (500 + ((k / 8) % 1001))) ((nI (((k / 8) / 7) % 41)) - 20) ((nI (((k / 8) / 287) % 41)) - 20) n hR.1.2.1 hR.1.1 (rel_kOk hR)) (vx_cwSW 4 hts gL_act_L_faults rfl rfl rfl hdS_L_faults ⟨Nat.le_of_ble_eq_true rfl, Nat.le_of_ble_eq_true rfl⟩) (sPSz hS.1.left) rfl rfl hl.1 rfl (lv_room (Nat.le_of_ble_eq_true rfl)) dL_act_70 ⟨Nat.le_of_ble_eq_true rfl, Nat.le_of_ble_eq_true rfl⟩) hS hAd (((oV_t ⟨in_l (l := 500) (m := 1500) (by decide +kernel) (by decide +kernel) (by omega) (by omega) (by omega), in_m (by omega), in_m (by omega)⟩).trans (acV_f h8).symm : oV (((500 ≤ (nI (500 + ((k / 8) % 1001))) ∧ (nI (500 + ((k / 8) % 1001))) ≤ 1500) ∧ ((-20) ≤ ((nI (((k / 8) / 7) % 41)) - 20) ∧ ((nI (((k / 8) / 7) % 41)) - 20) ≤ 20) ∧ ((-20) ≤ ((nI (((k / 8) / 287) % 41)) - 20) ∧ ((nI (((k / 8) / 287) % 41)) - 20) ≤ 20))) (κ 0 1) (-2000000002) = acV κ n (zf 0) k mm)) (fun H locs hS => ?_)
    rw [show (if ((500 ≤ (nI (500 + ((k / 8) % 1001))) ∧ (nI (500 + ((k / 8) % 1001))) ≤ 1500) ∧ ((-20) ≤ ((nI (((k / 8) / 7) % 41)) - 20) ∧ ((nI (((k / 8) / 7) % 41)) - 20) ≤ 20) ∧ ((-20) ≤ ((nI (((k / 8) / 287) % 41)) - 20) ∧ ((nI (((k / 8) / 287) % 41)) - 20) ≤ 20)) then (kAll (kF κ (nI (500 + ((k / 8) % 1001))) ((nI (((k / 8) / 7) % 41)) - 20) ((nI (((k / 8) / 287) % 41)) - 20)) n) else κ) = acK κ n (zf 0) k mm from (if_pos ⟨in_l (l := 500) (m := 1500) (by decide +kernel) (by decide +kernel) (by omega) (by omega) (by omega), in_m (by omega), in_m (by omega)⟩).trans (acK_f h8).symm] at hS
    exact l_mret hx hb hr hlk dL_act_73 (rfl) (rfl) hS (Nat.le_of_ble_eq_true rfl) (Nat.le_of_ble_eq_true rfl)
  · have e8 : (nI (k % 8)).toInt = 1 := by rw [h8]; decide +kernel
    refine lv_tableIn (off := 64) (tgt := 74) hx hb dL_act_10 (by omega) (by omega) (by rw [e8]; rfl) (by decide) ?_
    refine lv_aload_n hx hb dL_act_74 rfl (lv_at hl 1 rfl) ?_
    refine lv_iload hx hb dL_act_75 (lv_at hl 0 rfl) ?_
    refine lv_bipush (v := 24) hx hb dL_act_77 (by decide +kernel) ?_
    refine lv_irem hx hb dL_act_79 (by decide +kernel) ?_
    refine lv_topi (fun zz ezz => ?_)
    obtain rfl : zz = nI ((k / 8) % 24) := ezz.trans (rem_k (by decide +kernel) (by omega) (by omega))
    refine lv_iload hx hb dL_act_80 (lv_at hl 0 rfl) ?_
    refine lv_bipush (v := 24) hx hb dL_act_82 (by decide +kernel) ?_
    refine lv_idiv hx hb dL_act_84 (by decide +kernel) ?_
    refine lv_topi (fun zz ezz => ?_)
    obtain rfl : zz = nI ((k / 8) / 24) := ezz.trans (div_k (by decide +kernel) (by omega) (by omega))
    refine lv_iload_n hx hb dL_act_85 rfl (lv_at hl 4 rfl) ?_
    refine lv_iadd hx hb dL_act_86 ?_
    refine lv_topi (fun zz ezz => ?_)
    obtain rfl : zz = nI (((k / 8) / 24) + mm) := ezz.trans (nI_add _ _)
    refine lv_sipush (v := 360) hx hb dL_act_87 (by decide +kernel) ?_
    refine lv_irem hx hb dL_act_90 (by decide +kernel) ?_
    refine lv_topi (fun zz ezz => ?_)
    obtain rfl : zz = nI ((((k / 8) / 24) + mm) % 360) := ezz.trans (rem_k (by decide +kernel) (by omega) (by omega))
    refine lv_iload hx hb dL_act_91 (lv_at hl 0 rfl) ?_
    refine lv_sipush (v := 8640) hx hb dL_act_93 (by decide +kernel) ?_
    refine lv_idiv hx hb dL_act_96 (by decide +kernel) ?_
    refine lv_topi (fun zz ezz => ?_)
    obtain rfl : zz = nI ((k / 8) / 8640) := ezz.trans (div_k (by decide +kernel) (by omega) (by omega))
    refine lv_bipush (v := 101) hx hb dL_act_97 (by decide +kernel) ?_
    refine lv_irem hx hb dL_act_99 (by decide +kernel) ?_
    refine lv_topi (fun zz ezz => ?_)
    obtain rfl : zz = nI (((k / 8) / 8640) % 101) := ezz.trans (rem_k (by decide +kernel) (by omega) (by omega))
    refine l_mt (vx_runSX (hh := [(0, 7, 8, 26), (0, 7, 13, 13)]) (As := [.ref (ad 0), .int (nI ((k / 8) % 24)), .int (nI ((((k / 8) / 24) + mm) % 360)), .int (nI (((k / 8) / 8640) % 101))]) (rest := []) ⟨hx, hb, hml, hown, hts⟩ (h_tides l hfl D B ad κ s.heap.size (nI ((k / 8) % 24)) (nI ((((k / 8) / 24) + mm) % 360)) (nI (((k / 8) / 8640) % 101))) (vx_cwSW 4 hts gL_act_L_tides rfl rfl rfl hdS_L_tides ⟨Nat.le_of_ble_eq_true rfl, Nat.le_of_ble_eq_true rfl⟩) (sPSz hS.1.left) rfl rfl hl.1 rfl (lv_room (Nat.le_of_ble_eq_true rfl)) dL_act_100 ⟨Nat.le_of_ble_eq_true rfl, Nat.le_of_ble_eq_true rfl⟩) hS hAd (((oL_t (in_k (m := 23) (by decide +kernel) (by omega) (by omega)) ⟨ac_in 0 _ _, in_k (m := 100) (by decide +kernel) (by omega) (by omega)⟩).trans (by rw [acV_t (by omega) (by omega), iN_k (by omega)]) : oL (0 ≤ (nI ((k / 8) % 24)) ∧ (nI ((k / 8) % 24)) ≤ 23) ((0 ≤ (nI ((((k / 8) / 24) + mm) % 360)) ∧ (nI ((((k / 8) / 24) + mm) % 360)) ≤ 359) ∧ (0 ≤ (nI (((k / 8) / 8640) % 101)) ∧ (nI (((k / 8) / 8640) % 101)) ≤ 100)) (κ 3 (iN (nI ((k / 8) % 24)))) (-2000000001) (-2000000002) = acV κ n (zf 0) k mm)) (fun H locs hS => ?_)
    rw [show (if ((0 ≤ (nI ((k / 8) % 24)) ∧ (nI ((k / 8) % 24)) ≤ 23) ∧ (0 ≤ (nI ((((k / 8) / 24) + mm) % 360)) ∧ (nI ((((k / 8) / 24) + mm) % 360)) ≤ 359) ∧ (0 ≤ (nI (((k / 8) / 8640) % 101)) ∧ (nI (((k / 8) / 8640) % 101)) ≤ 100)) then (kset (kset κ 2 (iN (nI ((k / 8) % 24))) (nI ((((k / 8) / 24) + mm) % 360))) 3 (iN (nI ((k / 8) % 24))) (nI (((k / 8) / 8640) % 101))) else κ) = acK κ n (zf 0) k mm from (if_pos ⟨in_k (m := 23) (by decide +kernel) (by omega) (by omega), ac_in 0 _ _, in_k (m := 100) (by decide +kernel) (by omega) (by omega)⟩).trans (by rw [acK_t (by omega) (by omega), iN_k (by omega)])] at hS
    exact l_mret hx hb hr hlk dL_act_103 (rfl) (rfl) hS (Nat.le_of_ble_eq_true rfl) (Nat.le_of_ble_eq_true rfl)
  · have e8 : (nI (k % 8)).toInt = 2 := by rw [h8]; decide +kernel
    refine lv_tableIn (off := 64) (tgt := 74) hx hb dL_act_10 (by omega) (by omega) (by rw [e8]; rfl) (by decide) ?_
    refine lv_aload_n hx hb dL_act_74 rfl (lv_at hl 1 rfl) ?_
    refine lv_iload hx hb dL_act_75 (lv_at hl 0 rfl) ?_
    refine lv_bipush (v := 24) hx hb dL_act_77 (by decide +kernel) ?_
    refine lv_irem hx hb dL_act_79 (by decide +kernel) ?_
    refine lv_topi (fun zz ezz => ?_)
    obtain rfl : zz = nI ((k / 8) % 24) := ezz.trans (rem_k (by decide +kernel) (by omega) (by omega))
    refine lv_iload hx hb dL_act_80 (lv_at hl 0 rfl) ?_
    refine lv_bipush (v := 24) hx hb dL_act_82 (by decide +kernel) ?_
    refine lv_idiv hx hb dL_act_84 (by decide +kernel) ?_
    refine lv_topi (fun zz ezz => ?_)
    obtain rfl : zz = nI ((k / 8) / 24) := ezz.trans (div_k (by decide +kernel) (by omega) (by omega))
    refine lv_iload_n hx hb dL_act_85 rfl (lv_at hl 4 rfl) ?_
    refine lv_iadd hx hb dL_act_86 ?_
    refine lv_topi (fun zz ezz => ?_)
    obtain rfl : zz = nI (((k / 8) / 24) + mm) := ezz.trans (nI_add _ _)
    refine lv_sipush (v := 360) hx hb dL_act_87 (by decide +kernel) ?_
    refine lv_irem hx hb dL_act_90 (by decide +kernel) ?_
    refine lv_topi (fun zz ezz => ?_)
    obtain rfl : zz = nI ((((k / 8) / 24) + mm) % 360) := ezz.trans (rem_k (by decide +kernel) (by omega) (by omega))
    refine lv_iload hx hb dL_act_91 (lv_at hl 0 rfl) ?_
    refine lv_sipush (v := 8640) hx hb dL_act_93 (by decide +kernel) ?_
    refine lv_idiv hx hb dL_act_96 (by decide +kernel) ?_
    refine lv_topi (fun zz ezz => ?_)
    obtain rfl : zz = nI ((k / 8) / 8640) := ezz.trans (div_k (by decide +kernel) (by omega) (by omega))
    refine lv_bipush (v := 101) hx hb dL_act_97 (by decide +kernel) ?_
    refine lv_irem hx hb dL_act_99 (by decide +kernel) ?_
    refine lv_topi (fun zz ezz => ?_)
    obtain rfl : zz = nI (((k / 8) / 8640) % 101) := ezz.trans (rem_k (by decide +kernel) (by omega) (by omega))
    refine l_mt (vx_runSX (hh := [(0, 7, 8, 26), (0, 7, 13, 13)]) (As := [.ref (ad 0), .int (nI ((k / 8) % 24)), .int (nI ((((k / 8) / 24) + mm) % 360)), .int (nI (((k / 8) / 8640) % 101))]) (rest := []) ⟨hx, hb, hml, hown, hts⟩ (h_tides l hfl D B ad κ s.heap.size (nI ((k / 8) % 24)) (nI ((((k / 8) / 24) + mm) % 360)) (nI (((k / 8) / 8640) % 101))) (vx_cwSW 4 hts gL_act_L_tides rfl rfl rfl hdS_L_tides ⟨Nat.le_of_ble_eq_true rfl, Nat.le_of_ble_eq_true rfl⟩) (sPSz hS.1.left) rfl rfl hl.1 rfl (lv_room (Nat.le_of_ble_eq_true rfl)) dL_act_100 ⟨Nat.le_of_ble_eq_true rfl, Nat.le_of_ble_eq_true rfl⟩) hS hAd (((oL_t (in_k (m := 23) (by decide +kernel) (by omega) (by omega)) ⟨ac_in 0 _ _, in_k (m := 100) (by decide +kernel) (by omega) (by omega)⟩).trans (by rw [acV_t (by omega) (by omega), iN_k (by omega)]) : oL (0 ≤ (nI ((k / 8) % 24)) ∧ (nI ((k / 8) % 24)) ≤ 23) ((0 ≤ (nI ((((k / 8) / 24) + mm) % 360)) ∧ (nI ((((k / 8) / 24) + mm) % 360)) ≤ 359) ∧ (0 ≤ (nI (((k / 8) / 8640) % 101)) ∧ (nI (((k / 8) / 8640) % 101)) ≤ 100)) (κ 3 (iN (nI ((k / 8) % 24)))) (-2000000001) (-2000000002) = acV κ n (zf 0) k mm)) (fun H locs hS => ?_)
    rw [show (if ((0 ≤ (nI ((k / 8) % 24)) ∧ (nI ((k / 8) % 24)) ≤ 23) ∧ (0 ≤ (nI ((((k / 8) / 24) + mm) % 360)) ∧ (nI ((((k / 8) / 24) + mm) % 360)) ≤ 359) ∧ (0 ≤ (nI (((k / 8) / 8640) % 101)) ∧ (nI (((k / 8) / 8640) % 101)) ≤ 100)) then (kset (kset κ 2 (iN (nI ((k / 8) % 24))) (nI ((((k / 8) / 24) + mm) % 360))) 3 (iN (nI ((k / 8) % 24))) (nI (((k / 8) / 8640) % 101))) else κ) = acK κ n (zf 0) k mm from (if_pos ⟨in_k (m := 23) (by decide +kernel) (by omega) (by omega), ac_in 0 _ _, in_k (m := 100) (by decide +kernel) (by omega) (by omega)⟩).trans (by rw [acK_t (by omega) (by omega), iN_k (by omega)])] at hS
    exact l_mret hx hb hr hlk dL_act_103 (rfl) (rfl) hS (Nat.le_of_ble_eq_true rfl) (Nat.le_of_ble_eq_true rfl)
  · refine lv_tableOut (tgt := 104) hx hb dL_act_10 (Or.inr (by rw [nI_toInt (by omega)]; omega)) (by decide) ?_
    refine lv_aload_n hx hb dL_act_104 rfl (lv_at hl 1 rfl) ?_
    refine lv_aload_n hx hb dL_act_105 rfl (lv_at hl 2 rfl) ?_
    refine lv_iconst (v := 0) hx hb dL_act_106 (by decide +kernel) ?_
    refine z_ld hx hb hS.1 dL_act_107 ?_
    refine lv_iload hx hb dL_act_108 (lv_at hl 0 rfl) ?_
    refine lv_bipush (v := 60) hx hb dL_act_110 (by decide +kernel) ?_
    refine lv_irem hx hb dL_act_112 (by decide +kernel) ?_
    refine lv_topi (fun zz ezz => ?_)
    obtain rfl : zz = nI ((k / 8) % 60) := ezz.trans (rem_k (by decide +kernel) (by omega) (by omega))
    refine lv_iadd hx hb dL_act_113 ?_
    refine lv_iload hx hb dL_act_114 (lv_at hl 0 rfl) ?_
    refine lv_bipush (v := 7) hx hb dL_act_116 (by decide +kernel) ?_
    refine lv_idiv hx hb dL_act_118 (by decide +kernel) ?_
    refine lv_topi (fun zz ezz => ?_)
    obtain rfl : zz = nI ((k / 8) / 7) := ezz.trans (div_k (by decide +kernel) (by omega) (by omega))
    refine lv_iload hx hb dL_act_119 (lv_at hl 0 rfl) ?_
    refine lv_iconst (v := 2) hx hb dL_act_121 (by decide +kernel) ?_
    refine lv_irem hx hb dL_act_122 (by decide +kernel) ?_
    refine lv_topi (fun zz ezz => ?_)
    obtain rfl : zz = nI ((k / 8) % 2) := ezz.trans (rem_k (by decide +kernel) (by omega) (by omega))
    refine lv_if_ne (tgt := 131) hx hb dL_act_123 (by decide) (fun c123 => ?_) (fun c123 => ?_)
    ·
      have e123 : ¬ k / 8 % 2 = 0 := fun q => c123 (by rw [q]; rfl)
      refine lv_sipush (v := 301) hx hb dL_act_131 (by decide +kernel) ?_
      refine lv_irem hx hb dL_act_134 (by decide +kernel) ?_
      refine lv_topi (fun zz ezz => ?_)
      obtain rfl : zz = nI (((k / 8) / 7) % 301) := ezz.trans (rem_k (by decide +kernel) (by omega) (by omega))
      refine lv_iload hx hb dL_act_135 (lv_at hl 0 rfl) ?_
      refine lv_bipush (v := 11) hx hb dL_act_137 (by decide +kernel) ?_
      refine lv_idiv hx hb dL_act_139 (by decide +kernel) ?_
      refine lv_topi (fun zz ezz => ?_)
      obtain rfl : zz = nI ((k / 8) / 11) := ezz.trans (div_k (by decide +kernel) (by omega) (by omega))
      refine lv_iload_n hx hb dL_act_140 rfl (lv_at hl 4 rfl) ?_
      refine lv_iadd hx hb dL_act_141 ?_
      refine lv_topi (fun zz ezz => ?_)
      obtain rfl : zz = nI (((k / 8) / 11) + mm) := ezz.trans (nI_add _ _)
      refine lv_sipush (v := 360) hx hb dL_act_142 (by decide +kernel) ?_
      refine lv_irem hx hb dL_act_145 (by decide +kernel) ?_
      refine lv_topi (fun zz ezz => ?_)
      obtain rfl : zz = nI ((((k / 8) / 11) + mm) % 360) := ezz.trans (rem_k (by decide +kernel) (by omega) (by omega))
      refine lv_iload hx hb dL_act_146 (lv_at hl 0 rfl) ?_
      refine lv_bipush (v := 13) hx hb dL_act_148 (by decide +kernel) ?_
      refine lv_idiv hx hb dL_act_150 (by decide +kernel) ?_
      refine lv_topi (fun zz ezz => ?_)
      obtain rfl : zz = nI ((k / 8) / 13) := ezz.trans (div_k (by decide +kernel) (by omega) (by omega))
      refine lv_iload hx hb dL_act_151 (lv_at hl 0 rfl) ?_
      refine lv_iconst (v := 3) hx hb dL_act_153 (by decide +kernel) ?_
      refine lv_irem hx hb dL_act_154 (by decide +kernel) ?_
      refine lv_topi (fun zz ezz => ?_)
      obtain rfl : zz = nI ((k / 8) % 3) := ezz.trans (rem_k (by decide +kernel) (by omega) (by omega))
      refine lv_if_ne (tgt := 164) hx hb dL_act_155 (by decide) (fun c155 => ?_) (fun c155 => ?_)
      ·
        have e155 : ¬ k / 8 % 3 = 0 := fun q => c155 (by rw [q]; rfl)
        refine lv_sipush (v := 200) hx hb dL_act_164 (by decide +kernel) ?_
        refine lv_irem hx hb dL_act_167 (by decide +kernel) ?_
        refine lv_topi (fun zz ezz => ?_)
        obtain rfl : zz = nI (((k / 8) / 13) % 200) := ezz.trans (rem_k (by decide +kernel) (by omega) (by omega))
        refine lv_iload hx hb dL_act_168 (lv_at hl 0 rfl) ?_
        refine lv_bipush (v := 17) hx hb dL_act_170 (by decide +kernel) ?_
        refine lv_idiv hx hb dL_act_172 (by decide +kernel) ?_
        refine lv_topi (fun zz ezz => ?_)
        obtain rfl : zz = nI ((k / 8) / 17) := ezz.trans (div_k (by decide +kernel) (by omega) (by omega))
        refine lv_sipush (v := 360) hx hb dL_act_173 (by decide +kernel) ?_
        refine lv_irem hx hb dL_act_176 (by decide +kernel) ?_
        refine lv_topi (fun zz ezz => ?_)
        obtain rfl : zz = nI (((k / 8) / 17) % 360) := ezz.trans (rem_k (by decide +kernel) (by omega) (by omega))
        refine l_mt (vx_runSX (hh := [(0, 11, 12, 13), (0, 11, 17, 16)]) (As := [.ref (ad 0), .int ((zf 0) + (nI ((k / 8) % 60))), .int (nI (((k / 8) / 7) % 301)), .int (nI ((((k / 8) / 11) + mm) % 360)), .int (nI (((k / 8) / 13) % 200)), .int (nI (((k / 8) / 17) % 360))]) (rest := []) ⟨hx, hb, hml, hown, hts⟩ (h_logs l hfl D B ad κ s.heap.size ((zf 0) + (nI ((k / 8) % 60))) (nI (((k / 8) / 7) % 301)) (nI ((((k / 8) / 11) + mm) % 360)) (nI (((k / 8) / 13) % 200)) (nI (((k / 8) / 17) % 360)) n hR.1.2.1 hR.1.1 (rel_fa hR)) (vx_cwSW 6 hts gL_act_L_logs rfl rfl rfl hdS_L_logs ⟨Nat.le_of_ble_eq_true rfl, Nat.le_of_ble_eq_true rfl⟩) (sPSz hS.1.left) rfl rfl hl.1 rfl (lv_room (Nat.le_of_ble_eq_true rfl)) dL_act_177 ⟨Nat.le_of_ble_eq_true rfl, Nat.le_of_ble_eq_true rfl⟩) hS hAd ((acV_l h8 (by unfold acX2; rw [if_neg (by exact e123)]) (by unfold acX4; rw [if_neg (by exact e155)]) : oL ((0 ≤ ((zf 0) + (nI ((k / 8) % 60))) ∧ ((zf 0) + (nI ((k / 8) % 60))) ≤ 1439) ∧ (0 ≤ (nI (((k / 8) / 7) % 301)) ∧ (nI (((k / 8) / 7) % 301)) ≤ 300) ∧ (0 ≤ (nI ((((k / 8) / 11) + mm) % 360)) ∧ (nI ((((k / 8) / 11) + mm) % 360)) ≤ 359) ∧ (0 ≤ (nI (((k / 8) / 13) % 200)) ∧ (nI (((k / 8) / 13) % 200)) ≤ 600) ∧ (0 ≤ (nI (((k / 8) / 17) % 360)) ∧ (nI (((k / 8) / 17) % 360)) ≤ 359)) (n < 60 ∧ (n = 0 ∨ κ 4 (n - 1) < ((zf 0) + (nI ((k / 8) % 60))))) (nI n) (-2000000002) (-2000000003) = acV κ n (zf 0) k mm)) (fun H locs hS => ?_)
        rw [show (if (((0 ≤ ((zf 0) + (nI ((k / 8) % 60))) ∧ ((zf 0) + (nI ((k / 8) % 60))) ≤ 1439) ∧ (0 ≤ (nI (((k / 8) / 7) % 301)) ∧ (nI (((k / 8) / 7) % 301)) ≤ 300) ∧ (0 ≤ (nI ((((k / 8) / 11) + mm) % 360)) ∧ (nI ((((k / 8) / 11) + mm) % 360)) ≤ 359) ∧ (0 ≤ (nI (((k / 8) / 13) % 200)) ∧ (nI (((k / 8) / 13) % 200)) ≤ 600) ∧ (0 ≤ (nI (((k / 8) / 17) % 360)) ∧ (nI (((k / 8) / 17) % 360)) ≤ 359)) ∧ (n < 60 ∧ (n = 0 ∨ κ 4 (n - 1) < ((zf 0) + (nI ((k / 8) % 60)))))) then (kLog κ n ((zf 0) + (nI ((k / 8) % 60))) (nI (((k / 8) / 7) % 301)) (nI ((((k / 8) / 11) + mm) % 360)) (nI (((k / 8) / 13) % 200)) (nI (((k / 8) / 17) % 360))) else κ) = acK κ n (zf 0) k mm from acK_l h8 (by unfold acX2; rw [if_neg (by exact e123)]) (by unfold acX4; rw [if_neg (by exact e155)])] at hS
        exact l_mret hx hb hr hlk dL_act_180 (rfl) (rfl) hS (Nat.le_of_ble_eq_true rfl) (Nat.le_of_ble_eq_true rfl)
      ·
        have e155 : k / 8 % 3 = 0 := (nI_eq (b := 0) (by omega) (by omega)).mp c155
        refine lv_sipush (v := 601) hx hb dL_act_158 (by decide +kernel) ?_
        refine lv_goto (tgt := 167) hx hb dL_act_161 (by decide) ?_
        refine lv_irem hx hb dL_act_167 (by decide +kernel) ?_
        refine lv_topi (fun zz ezz => ?_)
        obtain rfl : zz = nI (((k / 8) / 13) % 601) := ezz.trans (rem_k (by decide +kernel) (by omega) (by omega))
        refine lv_iload hx hb dL_act_168 (lv_at hl 0 rfl) ?_
        refine lv_bipush (v := 17) hx hb dL_act_170 (by decide +kernel) ?_
        refine lv_idiv hx hb dL_act_172 (by decide +kernel) ?_
        refine lv_topi (fun zz ezz => ?_)
        obtain rfl : zz = nI ((k / 8) / 17) := ezz.trans (div_k (by decide +kernel) (by omega) (by omega))
        refine lv_sipush (v := 360) hx hb dL_act_173 (by decide +kernel) ?_
        refine lv_irem hx hb dL_act_176 (by decide +kernel) ?_
        refine lv_topi (fun zz ezz => ?_)
        obtain rfl : zz = nI (((k / 8) / 17) % 360) := ezz.trans (rem_k (by decide +kernel) (by omega) (by omega))
        refine l_mt (vx_runSX (hh := [(0, 11, 12, 13), (0, 11, 17, 16)]) (As := [.ref (ad 0), .int ((zf 0) + (nI ((k / 8) % 60))), .int (nI (((k / 8) / 7) % 301)), .int (nI ((((k / 8) / 11) + mm) % 360)), .int (nI (((k / 8) / 13) % 601)), .int (nI (((k / 8) / 17) % 360))]) (rest := []) ⟨hx, hb, hml, hown, hts⟩ (h_logs l hfl D B ad κ s.heap.size ((zf 0) + (nI ((k / 8) % 60))) (nI (((k / 8) / 7) % 301)) (nI ((((k / 8) / 11) + mm) % 360)) (nI (((k / 8) / 13) % 601)) (nI (((k / 8) / 17) % 360)) n hR.1.2.1 hR.1.1 (rel_fa hR)) (vx_cwSW 6 hts gL_act_L_logs rfl rfl rfl hdS_L_logs ⟨Nat.le_of_ble_eq_true rfl, Nat.le_of_ble_eq_true rfl⟩) (sPSz hS.1.left) rfl rfl hl.1 rfl (lv_room (Nat.le_of_ble_eq_true rfl)) dL_act_177 ⟨Nat.le_of_ble_eq_true rfl, Nat.le_of_ble_eq_true rfl⟩) hS hAd ((acV_l h8 (by unfold acX2; rw [if_neg (by exact e123)]) (by unfold acX4; rw [if_pos (by exact e155)]) : oL ((0 ≤ ((zf 0) + (nI ((k / 8) % 60))) ∧ ((zf 0) + (nI ((k / 8) % 60))) ≤ 1439) ∧ (0 ≤ (nI (((k / 8) / 7) % 301)) ∧ (nI (((k / 8) / 7) % 301)) ≤ 300) ∧ (0 ≤ (nI ((((k / 8) / 11) + mm) % 360)) ∧ (nI ((((k / 8) / 11) + mm) % 360)) ≤ 359) ∧ (0 ≤ (nI (((k / 8) / 13) % 601)) ∧ (nI (((k / 8) / 13) % 601)) ≤ 600) ∧ (0 ≤ (nI (((k / 8) / 17) % 360)) ∧ (nI (((k / 8) / 17) % 360)) ≤ 359)) (n < 60 ∧ (n = 0 ∨ κ 4 (n - 1) < ((zf 0) + (nI ((k / 8) % 60))))) (nI n) (-2000000002) (-2000000003) = acV κ n (zf 0) k mm)) (fun H locs hS => ?_)
        rw [show (if (((0 ≤ ((zf 0) + (nI ((k / 8) % 60))) ∧ ((zf 0) + (nI ((k / 8) % 60))) ≤ 1439) ∧ (0 ≤ (nI (((k / 8) / 7) % 301)) ∧ (nI (((k / 8) / 7) % 301)) ≤ 300) ∧ (0 ≤ (nI ((((k / 8) / 11) + mm) % 360)) ∧ (nI ((((k / 8) / 11) + mm) % 360)) ≤ 359) ∧ (0 ≤ (nI (((k / 8) / 13) % 601)) ∧ (nI (((k / 8) / 13) % 601)) ≤ 600) ∧ (0 ≤ (nI (((k / 8) / 17) % 360)) ∧ (nI (((k / 8) / 17) % 360)) ≤ 359)) ∧ (n < 60 ∧ (n = 0 ∨ κ 4 (n - 1) < ((zf 0) + (nI ((k / 8) % 60)))))) then (kLog κ n ((zf 0) + (nI ((k / 8) % 60))) (nI (((k / 8) / 7) % 301)) (nI ((((k / 8) / 11) + mm) % 360)) (nI (((k / 8) / 13) % 601)) (nI (((k / 8) / 17) % 360))) else κ) = acK κ n (zf 0) k mm from acK_l h8 (by unfold acX2; rw [if_neg (by exact e123)]) (by unfold acX4; rw [if_pos (by exact e155)])] at hS
        exact l_mret hx hb hr hlk dL_act_180 (rfl) (rfl) hS (Nat.le_of_ble_eq_true rfl) (Nat.le_of_ble_eq_true rfl)
    ·
      have e123 : k / 8 % 2 = 0 := (nI_eq (b := 0) (by omega) (by omega)).mp c123
      refine lv_bipush (v := 100) hx hb dL_act_126 (by decide +kernel) ?_
      refine lv_goto (tgt := 134) hx hb dL_act_128 (by decide) ?_
      refine lv_irem hx hb dL_act_134 (by decide +kernel) ?_
      refine lv_topi (fun zz ezz => ?_)
      obtain rfl : zz = nI (((k / 8) / 7) % 100) := ezz.trans (rem_k (by decide +kernel) (by omega) (by omega))
      refine lv_iload hx hb dL_act_135 (lv_at hl 0 rfl) ?_
      refine lv_bipush (v := 11) hx hb dL_act_137 (by decide +kernel) ?_
      refine lv_idiv hx hb dL_act_139 (by decide +kernel) ?_
      refine lv_topi (fun zz ezz => ?_)
      obtain rfl : zz = nI ((k / 8) / 11) := ezz.trans (div_k (by decide +kernel) (by omega) (by omega))
      refine lv_iload_n hx hb dL_act_140 rfl (lv_at hl 4 rfl) ?_
      refine lv_iadd hx hb dL_act_141 ?_
      refine lv_topi (fun zz ezz => ?_)
      obtain rfl : zz = nI (((k / 8) / 11) + mm) := ezz.trans (nI_add _ _)
      refine lv_sipush (v := 360) hx hb dL_act_142 (by decide +kernel) ?_
      refine lv_irem hx hb dL_act_145 (by decide +kernel) ?_
      refine lv_topi (fun zz ezz => ?_)
      obtain rfl : zz = nI ((((k / 8) / 11) + mm) % 360) := ezz.trans (rem_k (by decide +kernel) (by omega) (by omega))
      refine lv_iload hx hb dL_act_146 (lv_at hl 0 rfl) ?_
      refine lv_bipush (v := 13) hx hb dL_act_148 (by decide +kernel) ?_
      refine lv_idiv hx hb dL_act_150 (by decide +kernel) ?_
      refine lv_topi (fun zz ezz => ?_)
      obtain rfl : zz = nI ((k / 8) / 13) := ezz.trans (div_k (by decide +kernel) (by omega) (by omega))
      refine lv_iload hx hb dL_act_151 (lv_at hl 0 rfl) ?_
      refine lv_iconst (v := 3) hx hb dL_act_153 (by decide +kernel) ?_
      refine lv_irem hx hb dL_act_154 (by decide +kernel) ?_
      refine lv_topi (fun zz ezz => ?_)
      obtain rfl : zz = nI ((k / 8) % 3) := ezz.trans (rem_k (by decide +kernel) (by omega) (by omega))
      refine lv_if_ne (tgt := 164) hx hb dL_act_155 (by decide) (fun c155 => ?_) (fun c155 => ?_)
      ·
        have e155 : ¬ k / 8 % 3 = 0 := fun q => c155 (by rw [q]; rfl)
        refine lv_sipush (v := 200) hx hb dL_act_164 (by decide +kernel) ?_
        refine lv_irem hx hb dL_act_167 (by decide +kernel) ?_
        refine lv_topi (fun zz ezz => ?_)
        obtain rfl : zz = nI (((k / 8) / 13) % 200) := ezz.trans (rem_k (by decide +kernel) (by omega) (by omega))
        refine lv_iload hx hb dL_act_168 (lv_at hl 0 rfl) ?_
        refine lv_bipush (v := 17) hx hb dL_act_170 (by decide +kernel) ?_
        refine lv_idiv hx hb dL_act_172 (by decide +kernel) ?_
        refine lv_topi (fun zz ezz => ?_)
        obtain rfl : zz = nI ((k / 8) / 17) := ezz.trans (div_k (by decide +kernel) (by omega) (by omega))
        refine lv_sipush (v := 360) hx hb dL_act_173 (by decide +kernel) ?_
        refine lv_irem hx hb dL_act_176 (by decide +kernel) ?_
        refine lv_topi (fun zz ezz => ?_)
        obtain rfl : zz = nI (((k / 8) / 17) % 360) := ezz.trans (rem_k (by decide +kernel) (by omega) (by omega))
        refine l_mt (vx_runSX (hh := [(0, 11, 12, 13), (0, 11, 17, 16)]) (As := [.ref (ad 0), .int ((zf 0) + (nI ((k / 8) % 60))), .int (nI (((k / 8) / 7) % 100)), .int (nI ((((k / 8) / 11) + mm) % 360)), .int (nI (((k / 8) / 13) % 200)), .int (nI (((k / 8) / 17) % 360))]) (rest := []) ⟨hx, hb, hml, hown, hts⟩ (h_logs l hfl D B ad κ s.heap.size ((zf 0) + (nI ((k / 8) % 60))) (nI (((k / 8) / 7) % 100)) (nI ((((k / 8) / 11) + mm) % 360)) (nI (((k / 8) / 13) % 200)) (nI (((k / 8) / 17) % 360)) n hR.1.2.1 hR.1.1 (rel_fa hR)) (vx_cwSW 6 hts gL_act_L_logs rfl rfl rfl hdS_L_logs ⟨Nat.le_of_ble_eq_true rfl, Nat.le_of_ble_eq_true rfl⟩) (sPSz hS.1.left) rfl rfl hl.1 rfl (lv_room (Nat.le_of_ble_eq_true rfl)) dL_act_177 ⟨Nat.le_of_ble_eq_true rfl, Nat.le_of_ble_eq_true rfl⟩) hS hAd ((acV_l h8 (by unfold acX2; rw [if_pos (by exact e123)]) (by unfold acX4; rw [if_neg (by exact e155)]) : oL ((0 ≤ ((zf 0) + (nI ((k / 8) % 60))) ∧ ((zf 0) + (nI ((k / 8) % 60))) ≤ 1439) ∧ (0 ≤ (nI (((k / 8) / 7) % 100)) ∧ (nI (((k / 8) / 7) % 100)) ≤ 300) ∧ (0 ≤ (nI ((((k / 8) / 11) + mm) % 360)) ∧ (nI ((((k / 8) / 11) + mm) % 360)) ≤ 359) ∧ (0 ≤ (nI (((k / 8) / 13) % 200)) ∧ (nI (((k / 8) / 13) % 200)) ≤ 600) ∧ (0 ≤ (nI (((k / 8) / 17) % 360)) ∧ (nI (((k / 8) / 17) % 360)) ≤ 359)) (n < 60 ∧ (n = 0 ∨ κ 4 (n - 1) < ((zf 0) + (nI ((k / 8) % 60))))) (nI n) (-2000000002) (-2000000003) = acV κ n (zf 0) k mm)) (fun H locs hS => ?_)
        rw [show (if (((0 ≤ ((zf 0) + (nI ((k / 8) % 60))) ∧ ((zf 0) + (nI ((k / 8) % 60))) ≤ 1439) ∧ (0 ≤ (nI (((k / 8) / 7) % 100)) ∧ (nI (((k / 8) / 7) % 100)) ≤ 300) ∧ (0 ≤ (nI ((((k / 8) / 11) + mm) % 360)) ∧ (nI ((((k / 8) / 11) + mm) % 360)) ≤ 359) ∧ (0 ≤ (nI (((k / 8) / 13) % 200)) ∧ (nI (((k / 8) / 13) % 200)) ≤ 600) ∧ (0 ≤ (nI (((k / 8) / 17) % 360)) ∧ (nI (((k / 8) / 17) % 360)) ≤ 359)) ∧ (n < 60 ∧ (n = 0 ∨ κ 4 (n - 1) < ((zf 0) + (nI ((k / 8) % 60)))))) then (kLog κ n ((zf 0) + (nI ((k / 8) % 60))) (nI (((k / 8) / 7) % 100)) (nI ((((k / 8) / 11) + mm) % 360)) (nI (((k / 8) / 13) % 200)) (nI (((k / 8) / 17) % 360))) else κ) = acK κ n (zf 0) k mm from acK_l h8 (by unfold acX2; rw [if_pos (by exact e123)]) (by unfold acX4; rw [if_neg (by exact e155)])] at hS
        exact l_mret hx hb hr hlk dL_act_180 (rfl) (rfl) hS (Nat.le_of_ble_eq_true rfl) (Nat.le_of_ble_eq_true rfl)
      ·
        have e155 : k / 8 % 3 = 0 := (nI_eq (b := 0) (by omega) (by omega)).mp c155
        refine lv_sipush (v := 601) hx hb dL_act_158 (by decide +kernel) ?_
        refine lv_goto (tgt := 167) hx hb dL_act_161 (by decide) ?_
        refine lv_irem hx hb dL_act_167 (by decide +kernel) ?_
        refine lv_topi (fun zz ezz => ?_)
        obtain rfl : zz = nI (((k / 8) / 13) % 601) := ezz.trans (rem_k (by decide +kernel) (by omega) (by omega))
        refine lv_iload hx hb dL_act_168 (lv_at hl 0 rfl) ?_
        refine lv_bipush (v := 17) hx hb dL_act_170 (by decide +kernel) ?_
        refine lv_idiv hx hb dL_act_172 (by decide +kernel) ?_
        refine lv_topi (fun zz ezz => ?_)
        obtain rfl : zz = nI ((k / 8) / 17) := ezz.trans (div_k (by decide +kernel) (by omega) (by omega))
        refine lv_sipush (v := 360) hx hb dL_act_173 (by decide +kernel) ?_
        refine lv_irem hx hb dL_act_176 (by decide +kernel) ?_
        refine lv_topi (fun zz ezz => ?_)
        obtain rfl : zz = nI (((k / 8) / 17) % 360) := ezz.trans (rem_k (by decide +kernel) (by omega) (by omega))
        refine l_mt (vx_runSX (hh := [(0, 11, 12, 13), (0, 11, 17, 16)]) (As := [.ref (ad 0), .int ((zf 0) + (nI ((k / 8) % 60))), .int (nI (((k / 8) / 7) % 100)), .int (nI ((((k / 8) / 11) + mm) % 360)), .int (nI (((k / 8) / 13) % 601)), .int (nI (((k / 8) / 17) % 360))]) (rest := []) ⟨hx, hb, hml, hown, hts⟩ (h_logs l hfl D B ad κ s.heap.size ((zf 0) + (nI ((k / 8) % 60))) (nI (((k / 8) / 7) % 100)) (nI ((((k / 8) / 11) + mm) % 360)) (nI (((k / 8) / 13) % 601)) (nI (((k / 8) / 17) % 360)) n hR.1.2.1 hR.1.1 (rel_fa hR)) (vx_cwSW 6 hts gL_act_L_logs rfl rfl rfl hdS_L_logs ⟨Nat.le_of_ble_eq_true rfl, Nat.le_of_ble_eq_true rfl⟩) (sPSz hS.1.left) rfl rfl hl.1 rfl (lv_room (Nat.le_of_ble_eq_true rfl)) dL_act_177 ⟨Nat.le_of_ble_eq_true rfl, Nat.le_of_ble_eq_true rfl⟩) hS hAd ((acV_l h8 (by unfold acX2; rw [if_pos (by exact e123)]) (by unfold acX4; rw [if_pos (by exact e155)]) : oL ((0 ≤ ((zf 0) + (nI ((k / 8) % 60))) ∧ ((zf 0) + (nI ((k / 8) % 60))) ≤ 1439) ∧ (0 ≤ (nI (((k / 8) / 7) % 100)) ∧ (nI (((k / 8) / 7) % 100)) ≤ 300) ∧ (0 ≤ (nI ((((k / 8) / 11) + mm) % 360)) ∧ (nI ((((k / 8) / 11) + mm) % 360)) ≤ 359) ∧ (0 ≤ (nI (((k / 8) / 13) % 601)) ∧ (nI (((k / 8) / 13) % 601)) ≤ 600) ∧ (0 ≤ (nI (((k / 8) / 17) % 360)) ∧ (nI (((k / 8) / 17) % 360)) ≤ 359)) (n < 60 ∧ (n = 0 ∨ κ 4 (n - 1) < ((zf 0) + (nI ((k / 8) % 60))))) (nI n) (-2000000002) (-2000000003) = acV κ n (zf 0) k mm)) (fun H locs hS => ?_)
        rw [show (if (((0 ≤ ((zf 0) + (nI ((k / 8) % 60))) ∧ ((zf 0) + (nI ((k / 8) % 60))) ≤ 1439) ∧ (0 ≤ (nI (((k / 8) / 7) % 100)) ∧ (nI (((k / 8) / 7) % 100)) ≤ 300) ∧ (0 ≤ (nI ((((k / 8) / 11) + mm) % 360)) ∧ (nI ((((k / 8) / 11) + mm) % 360)) ≤ 359) ∧ (0 ≤ (nI (((k / 8) / 13) % 601)) ∧ (nI (((k / 8) / 13) % 601)) ≤ 600) ∧ (0 ≤ (nI (((k / 8) / 17) % 360)) ∧ (nI (((k / 8) / 17) % 360)) ≤ 359)) ∧ (n < 60 ∧ (n = 0 ∨ κ 4 (n - 1) < ((zf 0) + (nI ((k / 8) % 60)))))) then (kLog κ n ((zf 0) + (nI ((k / 8) % 60))) (nI (((k / 8) / 7) % 100)) (nI ((((k / 8) / 11) + mm) % 360)) (nI (((k / 8) / 13) % 601)) (nI (((k / 8) / 17) % 360))) else κ) = acK κ n (zf 0) k mm from acK_l h8 (by unfold acX2; rw [if_pos (by exact e123)]) (by unfold acX4; rw [if_pos (by exact e155)])] at hS
        exact l_mret hx hb hr hlk dL_act_180 (rfl) (rfl) hS (Nat.le_of_ble_eq_true rfl) (Nat.le_of_ble_eq_true rfl)
end SLaw4
