/-! ===== open, drawn, gain ===== -/
section SLaw2
theorem row_rng (z : Int32) : 0 ≤ rowI (t360 z) ∧ rowI (t360 z) ≤ 18 := by
  obtain ⟨e, h⟩ := rN_ok z
  rw [e]
  exact in_k (m := 18) (by decide +kernel) (by omega) (by omega)
theorem sub_lt {a b : Nat} (ha : a < 360) (hb : b < 360) : (nI a - nI b).toInt < 1000000 := by
  rw [i32_sub (by rw [nI_toInt (by omega), nI_toInt (by omega)]; omega) (by rw [nI_toInt (by omega), nI_toInt (by omega)]; omega), nI_toInt (by omega), nI_toInt (by omega)]
  omega
set_option maxRecDepth 100000 in
theorem c_L_open (l : Launch) (x : Int32) : Met l yL_open wsL_open ({ frames := 0, cells := 0, slots := 0, locals := 0 } : Room) (va_Pc ([.int x] : List Value) (fun _ => True)) (vp_Si (fun rr => rr = opI x)) 0 0 (fun _ => False) := by
  refine s_head (cc := cL_open) (maxL := 1) (ret := some .int) (by decide +kernel) rfl (Nat.le_of_ble_eq_true rfl) ?_
  intro p e s m below meth c hx hb hr hlk hml hown hnm hts _ ls hl
  have hl : lv_has ls 1 [(0, .int x)] := hl
  refine lv_iload_n hx hb dL_open_0 rfl (lv_at hl 0 rfl) ?_
  refine lv_sipush (v := 180) hx hb dL_open_1 (by decide +kernel) ?_
  refine lv_icmp_le (tgt := 15) hx hb dL_open_4 (by decide) (fun c4 => ?_) (fun c4 => ?_)
  · refine lv_iload_n hx hb dL_open_15 rfl (lv_at hl 0 rfl) ?_
    exact s_iret hx hb hr hlk dL_open_16 (by rw [opI, if_neg]; rw [i32_le] at c4; rw [i32_lt]; omega)
  · refine lv_sipush (v := 360) hx hb dL_open_7 (by decide +kernel) ?_
    refine lv_iload_n hx hb dL_open_10 rfl (lv_at hl 0 rfl) ?_
    refine lv_isub hx hb dL_open_11 ?_
    refine lv_goto (tgt := 16) hx hb dL_open_12 (by decide) ?_
    exact s_iret hx hb hr hlk dL_open_16 (by rw [opI, if_pos (nle c4)])
def drF (L : Nat) (xs : Nat → Int32) (k : Nat) : Int32 := (if k < L then xs k else 15525113 * (nI k + 3) + 13841) &&& 2147483647
theorem drF_n (L : Nat) (xs : Nat → Int32) (k : Nat) : ∃ j, j < 2 ^ 31 ∧ drF L xs k = nI j := pk_andE _ 31 (by decide +kernel)
theorem dr_blind {b L k : Nat} {xs : Nat → Int32} : FrameBlind (va_Pc ([.ref b, .int (nI k)] : List Value) (fun U => va_X b L xs U U.heap)) := fun _ U _ _ h => ⟨h.1, h.2.moved (u := U) (State.WarmedH.refl U).alike⟩
set_option maxRecDepth 100000 in
theorem c_L_drawn (l : Launch) (b L : Nat) (xs : Nat → Int32) (k : Nat) (hk : k ≤ 100) (hL : L ≤ 260) : Met l yL_drawn wsL_drawn ({ frames := 0, cells := 0, slots := 0, locals := 0 } : Room) (va_Pc ([.ref b, .int (nI k)] : List Value) (fun U => va_X b L xs U U.heap)) (vp_Si (fun rr => rr = drF L xs k)) 0 0 (fun _ => False) := by
  refine s_head (cc := cL_drawn) (maxL := 2) (ret := some .int) (by decide +kernel) rfl (Nat.le_of_ble_eq_true rfl) ?_
  intro p e s m below meth c hx hb hr hlk hml hown hnm hts hX ls hl
  have hown : s.vm.findClass RL = some m.cls := hown
  have hl : lv_has ls 2 [(0, .ref b), (1, .int (nI k))] := hl
  have hbl : b < s.heap.size := by
    obtain ⟨scr, h, -⟩ := hX
    exact (Array.getElem?_eq_some_iff.mp h).1
  have hS : va_S (fun _ : Nat => False) s.heap s.heap [] := va_S.rf
  have k76 : (Cond.constant RL 76 (15525113)).before ([.ref b, .int (nI k)] : List Value).toArray s = true := hts _ (by decide +kernel)
  have k77 : (Cond.constant RL 77 (2147483647)).before ([.ref b, .int (nI k)] : List Value).toArray s = true := hts _ (by decide +kernel)
  have j22 : ∀ (v : Int32) (hv : v &&& 2147483647 = drF L xs k) (ls : Array Slot), W p l e ({ frames := 0, cells := 0, slots := 0, locals := 0 } : Room) s m ([.ref b, .int (nI k)] : List Value).toArray below meth c s.heap [] 0 0 (MQ below (vp_Si (fun rr => rr = drF L xs k)) ([.ref b, .int (nI k)] : List Value).toArray s 0 0 (fun _ => False)) (F0 m 22 ls [.int v]) := by
    intro v hv ls
    refine lv_ldc (own := RL) hx hb hown k77 dL_drawn_22 ?_
    refine lv_iand hx hb dL_drawn_24 ?_
    exact s_iret hx hb hr hlk dL_drawn_25 hv
  refine lv_iload_n hx hb dL_drawn_0 rfl (lv_at hl 1 rfl) ?_
  refine lv_aload_n hx hb dL_drawn_1 rfl (lv_at hl 0 rfl) ?_
  refine va_slen hx hb hX hbl (fun h => h) hS dL_drawn_2 ?_
  refine lv_icmp_ge (tgt := 12) hx hb dL_drawn_3 (by decide) (fun c3 => ?_) (fun c3 => ?_)
  · refine lv_ldc (own := RL) hx hb hown k76 dL_drawn_12 ?_
    refine lv_iload_n hx hb dL_drawn_14 rfl (lv_at hl 1 rfl) ?_
    refine lv_iconst (v := 3) hx hb dL_drawn_15 (by decide +kernel) ?_
    refine lv_iadd hx hb dL_drawn_16 ?_
    refine lv_imul hx hb dL_drawn_17 ?_
    refine lv_sipush (v := 13841) hx hb dL_drawn_18 (by decide +kernel) ?_
    refine lv_iadd hx hb dL_drawn_21 ?_
    exact j22 _ (by rw [drF, if_neg]; exact fun q => absurd ((nI_leI (by omega) (by omega)).mp c3) (by omega)) _
  · have hkL : k < L := by
      refine Nat.lt_of_not_le (fun q => c3 ?_)
      exact nI_le q (by omega)
    refine lv_aload_n hx hb dL_drawn_6 rfl (lv_at hl 0 rfl) ?_
    refine lv_iload_n hx hb dL_drawn_7 rfl (lv_at hl 1 rfl) ?_
    refine va_sld hx hb hX hbl (fun h => h) hS (vp_in_nI hkL (by omega)) dL_drawn_8 ?_
    refine lv_goto (tgt := 22) hx hb dL_drawn_9 (by decide) ?_
    exact j22 _ (by rw [drF, if_pos hkL, nI_clamp (by omega)]) _
set_option maxRecDepth 100000 in
set_option maxHeartbeats 4000000 in
theorem c_L_gain (l : Launch) (hfl : l.flags = flags0) (D : sD) (B : Nat) (ad : Nat → Nat) (κ : sQ) (sz : Nat) (cc f b h : Nat) (hcc : cc < 10) (hf : f < 360) (hbb : b < 360) (hh : h < 360) : vx_Met l yL_gain wsL_gain ({ frames := 10, cells := 1, slots := 6, locals := 168 } : Room) (sPz D B (CW D ad κ) sz ([.ref (ad 0), .int (nI cc), .int (nI f), .int (nI b), .int (nI h)] : List Value)) (va_Qi (S := Unit) (fun rr _ => rr = gF κ f b cc h) (fun _ _ => True) (rA 0 ad sz)) (fun _ _ _ => False) 1 6 (rA 0 ad sz) := by
  refine s_headX (cc := cL_gain) (maxL := 5) (ret := (some .int)) (by decide +kernel) rfl (Nat.le_of_ble_eq_true rfl) ?_
  intro p e s m below meth c hx hb hr hlk hml hown hno hts hB0 ls hl
  obtain ⟨hsz, hJ⟩ := hB0
  subst hsz
  have hown : s.vm.findClass RL = some m.cls := hown
  have hl : lv_has ls 5 [(0, .ref (ad 0)), (1, .int (nI cc)), (2, .int (nI f)), (3, .int (nI b)), (4, .int (nI h))] := hl
  have hS := rS.start (n := 0) (ad := ad) hJ
  refine lv_aload_n hx hb dL_gain_0 rfl (lv_at hl 0 rfl) ?_
  refine lv_iload_n hx hb dL_gain_1 rfl (lv_at hl 2 rfl) ?_
  refine lv_iload hx hb dL_gain_2 (lv_at hl 4 rfl) ?_
  refine lv_isub hx hb dL_gain_4 ?_
  refine lv_sipush (v := 360) hx hb dL_gain_5 (by decide +kernel) ?_
  refine lv_iadd hx hb dL_gain_8 ?_
  refine lv_sipush (v := 360) hx hb dL_gain_9 (by decide +kernel) ?_
  refine lv_irem hx hb dL_gain_12 (by decide +kernel) ?_
  refine lv_topi (fun zz ezz => ?_)
  obtain rfl : zz = t360 (nI f + -nI h) := ezz.trans (ang_f hf hh)
  refine s_ciS (As := [.int (t360 (nI f + -nI h))]) (rest := [.ref (ad 0)]) ⟨hx, hb, hml, hown, hts⟩ (c_L_open l (t360 (nI f + -nI h))) (va_cwS 1 hts gL_gain_L_open rfl rfl rfl hdS_L_open ⟨Nat.le_of_ble_eq_true rfl, Nat.le_of_ble_eq_true rfl⟩) sPS0 rfl hl.1 rfl (Nat.le_of_ble_eq_true rfl) dL_gain_13 ⟨Nat.le_of_ble_eq_true rfl, Nat.le_of_ble_eq_true rfl⟩ ?_
  refine lv_topi (fun zz ezz => ?_)
  obtain rfl : zz = opn (t360 (nI f + -nI h)) := ezz.trans (opI_n _ (k360_lt _))
  refine lv_bipush (v := 10) hx hb dL_gain_16 (by decide +kernel) ?_
  refine lv_idiv hx hb dL_gain_18 (by decide +kernel) ?_
  refine lv_topi (fun zz ezz => ?_)
  obtain rfl : zz = rowI (t360 (nI f + -nI h)) := ezz.trans (rfl)
  refine lv_iload_n hx hb dL_gain_19 rfl (lv_at hl 1 rfl) ?_
  refine l_rd (vx_runSX (hh := [(0, 6, 7, 26)]) (As := [.ref (ad 0), .int (rowI (t360 (nI f + -nI h))), .int (nI cc)]) (rest := []) ⟨hx, hb, hml, hown, hts⟩ (h_best l hfl D B ad κ s.heap.size (rowI (t360 (nI f + -nI h))) (nI cc)) (vx_cwSW 3 hts gL_gain_L_best rfl rfl rfl hdS_L_best ⟨Nat.le_of_ble_eq_true rfl, Nat.le_of_ble_eq_true rfl⟩) (sPSz hS.1) rfl rfl hl.1 rfl (lv_room (Nat.le_of_ble_eq_true rfl)) dL_gain_20 ⟨Nat.le_of_ble_eq_true rfl, Nat.le_of_ble_eq_true rfl⟩) hS ((oV_t ⟨row_rng _, in_k (m := 9) (by decide +kernel) (by omega) (by omega)⟩ : oV (((0 ≤ (rowI (t360 (nI f + -nI h))) ∧ (rowI (t360 (nI f + -nI h))) ≤ 18) ∧ (0 ≤ (nI cc) ∧ (nI cc) ≤ 9))) (κ 1 (iN (rowI (t360 (nI f + -nI h))) * 10 + iN (nI cc))) (-2000000001) = κ 1 (rN (t360 (nI f + -nI h)) * 10 + iN (nI cc)))) (fun H locs hS => ?_)
  refine lv_aload_n hx hb dL_gain_23 rfl (lv_at hl 0 rfl) ?_
  refine lv_iload hx hb dL_gain_24 (lv_at hl 4 rfl) ?_
  refine lv_iload_n hx hb dL_gain_26 rfl (lv_at hl 3 rfl) ?_
  refine lv_isub hx hb dL_gain_27 ?_
  refine lv_bipush (v := 90) hx hb dL_gain_28 (by decide +kernel) ?_
  refine lv_iadd hx hb dL_gain_30 ?_
  refine s_ciV (As := [.int (((nI h) - (nI b)) + 90)]) (rest := [.int (κ 1 (rN (t360 (nI f + -nI h)) * 10 + iN (nI cc)))]) ⟨hx, hb, hml, hown, hts⟩ (c_X3_sine l D B ad κ (((nI h) - (nI b)) + 90)) (cwV 1 hts gL_gain_X3_sine rfl rfl rfl hdV_X3_sine ⟨Nat.le_of_ble_eq_true rfl, Nat.le_of_ble_eq_true rfl⟩) (sPV hS.1 (ci := 3) (q0 := 0) rfl rfl) rfl hl.1 rfl (Nat.le_of_ble_eq_true rfl) dL_gain_31 ⟨Nat.le_of_ble_eq_true rfl, Nat.le_of_ble_eq_true rfl⟩ ?_
  refine lv_topi (fun zz ezz => ?_)
  obtain rfl : zz = cs (nI h - nI b) := ezz.trans (sn_90 (sub_lt hh hbb))
  refine lv_imul hx hb dL_gain_34 ?_
  exact l_rret hx hb hr hlk dL_gain_35 (rfl) hS (Nat.le_of_ble_eq_true rfl) (Nat.le_of_ble_eq_true rfl)
end SLaw2
