set_option maxRecDepth 100000 in
set_option maxHeartbeats 4000000 in
theorem c_X3_kindOf (l : Launch) (D : sD) (B : Nat) (ad : Nat → Nat) (κ : sQ) (x : Int32) (n : Nat) (i : Nat) (hn9 : κ 0 0 = nI n) (hn60 : n ≤ 60) (hx9 : x = nI i) (hi : i < n) : Met l yX3_kindOf wsX3_kindOf ({ frames := 3, cells := 0, slots := 0, locals := 53 } : Room) (sP D B (CW D ad κ) ([.ref (ad 0), .int x] : List Value)) (vp_Si (fun rr => rr = kindF (κ 12) i)) 0 0 (fun _ => False) := by
  refine s_head (cc := cX3_kindOf) (maxL := 6) (ret := (some .int)) (by decide +kernel) rfl (Nat.le_of_ble_eq_true rfl) ?_
  intro p e s m below meth c hx hb hr hlk hml hown hnm hts hB0 ls hl
  have hJ := hB0
  have hown : s.vm.findClass RX3 = some m.cls := hown
  have hl : lv_has ls 6 [(0, .ref (ad 0)), (1, .int x)] := hl
  have k18 : (Cond.fieldLink RX3 18 "SailLog" "logged" "[LSailLog$Entry;").before ([.ref (ad 0), .int x] : List Value).toArray s = true := hts _ (by decide +kernel)
  have i3 : ∀ w ∈ wsX30, w ∈ wsX3_kindOf := by decide +kernel
  refine lv_iload_n hx hb dX3_kindOf_0 rfl (lv_at hl 1 rfl) ?_
  refine lv_if_ne (tgt := 6) hx hb dX3_kindOf_1 (by decide) (fun c1 => ?_) (fun c1 => ?_)
  ·
    have hz : ¬ i = 0 := fun q => c1 (by rw [hx9, q]; decide +kernel)
    have hi60 : i < 60 := by omega
    have hi61 : i - 1 < 60 := by omega
    refine lv_aload_n hx hb dX3_kindOf_6 rfl (lv_at hl 0 rfl) ?_
    refine g3_1 hx hb hts i3 hown hJ k18 dX3_kindOf_7 ?_
    refine lv_iload_n hx hb dX3_kindOf_10 rfl (lv_at hl 1 rfl) ?_
    refine lv_iconst (v := 1) hx hb dX3_kindOf_11 (by decide +kernel) ?_
    refine lv_isub hx hb dX3_kindOf_12 ?_
    refine a_log (k := i - 1) hx hb hJ (by rw [hx9]; exact nI_pre (by omega)) (by omega) dX3_kindOf_13 ?_
    refine lv_astore_n (lv' := [(2, .ref (ad (8 + (i - 1)))), (0, .ref (ad 0)), (1, .int x)]) hx hb dX3_kindOf_14 rfl hl (by decide) rfl (fun ls hl => ?_)
    refine lv_aload_n hx hb dX3_kindOf_15 rfl (lv_at hl 1 rfl) ?_
    refine g3_1 hx hb hts i3 hown hJ k18 dX3_kindOf_16 ?_
    refine lv_iload_n hx hb dX3_kindOf_19 rfl (lv_at hl 2 rfl) ?_
    refine a_log (k := i) hx hb hJ (hx9) (by omega) dX3_kindOf_20 ?_
    refine lv_astore_n (lv' := [(3, .ref (ad (8 + i))), (2, .ref (ad (8 + (i - 1)))), (0, .ref (ad 0)), (1, .int x)]) hx hb dX3_kindOf_21 rfl hl (by decide) rfl (fun ls hl => ?_)
    refine lv_aload_n hx hb dX3_kindOf_22 rfl (lv_at hl 0 rfl) ?_
    refine s_ciV (As := []) (rest := []) ⟨hx, hb, hml, hown, hts⟩ (c_X2_windSide l D B ad κ i (by assumption)) (cwV 0 hts gX3_kindOf_X2_windSide rfl rfl rfl hdV_X2_windSide ⟨Nat.le_of_ble_eq_true rfl, Nat.le_of_ble_eq_true rfl⟩) (sPV hJ (ci := 2) rfl (CW_e D ad κ (by omega))) rfl hl.1 rfl (Nat.le_of_ble_eq_true rfl) dX3_kindOf_23 ⟨Nat.le_of_ble_eq_true rfl, Nat.le_of_ble_eq_true rfl⟩ ?_
    refine lv_istore (lv' := [(4, .int (sdI (κ 12 i))), (3, .ref (ad (8 + i))), (2, .ref (ad (8 + (i - 1)))), (0, .ref (ad 0)), (1, .int x)]) hx hb dX3_kindOf_26 hl (by decide) rfl (fun ls hl => ?_)
    refine lv_aload_n hx hb dX3_kindOf_28 rfl (lv_at hl 2 rfl) ?_
    refine s_ciV (As := []) (rest := []) ⟨hx, hb, hml, hown, hts⟩ (c_X2_windSide l D B ad κ (i - 1) (by assumption)) (cwV 0 hts gX3_kindOf_X2_windSide rfl rfl rfl hdV_X2_windSide ⟨Nat.le_of_ble_eq_true rfl, Nat.le_of_ble_eq_true rfl⟩) (sPV hJ (ci := 2) rfl (CW_e D ad κ (by omega))) rfl hl.1 rfl (Nat.le_of_ble_eq_true rfl) dX3_kindOf_29 ⟨Nat.le_of_ble_eq_true rfl, Nat.le_of_ble_eq_true rfl⟩ ?_
    refine lv_istore (lv' := [(5, .int (sdI (κ 12 (i - 1)))), (4, .int (sdI (κ 12 i))), (3, .ref (ad (8 + i))), (2, .ref (ad (8 + (i - 1)))), (0, .ref (ad 0)), (1, .int x)]) hx hb dX3_kindOf_32 hl (by decide) rfl (fun ls hl => ?_)
    refine lv_iload hx hb dX3_kindOf_34 (lv_at hl 1 rfl) ?_
    refine lv_if_eq (tgt := 51) hx hb dX3_kindOf_36 (by decide) (fun c36 => ?_) (fun c36 => ?_)
    ·
      refine lv_iconst (v := 0) hx hb dX3_kindOf_51 (by decide +kernel) ?_
      exact s_iret hx hb hr hlk dX3_kindOf_52 (kind_n hz (Or.inl c36))
    ·
      refine lv_iload hx hb dX3_kindOf_39 (lv_at hl 0 rfl) ?_
      refine lv_if_eq (tgt := 51) hx hb dX3_kindOf_41 (by decide) (fun c41 => ?_) (fun c41 => ?_)
      ·
        refine lv_iconst (v := 0) hx hb dX3_kindOf_51 (by decide +kernel) ?_
        exact s_iret hx hb hr hlk dX3_kindOf_52 (kind_n hz (Or.inr (Or.inl c41)))
      ·
        refine lv_iload hx hb dX3_kindOf_44 (lv_at hl 1 rfl) ?_
        refine lv_iload hx hb dX3_kindOf_46 (lv_at hl 0 rfl) ?_
        refine lv_icmp_ne (tgt := 53) hx hb dX3_kindOf_48 (by decide) (fun c48 => ?_) (fun c48 => ?_)
        ·
          refine lv_aload_n hx hb dX3_kindOf_53 rfl (lv_at hl 3 rfl) ?_
          refine s_ciV (As := []) (rest := []) ⟨hx, hb, hml, hown, hts⟩ (c_X2_openAngle l D B ad κ (i - 1) (by assumption)) (cwV 0 hts gX3_kindOf_X2_openAngle rfl rfl rfl hdV_X2_openAngle ⟨Nat.le_of_ble_eq_true rfl, Nat.le_of_ble_eq_true rfl⟩) (sPV hJ (ci := 2) rfl (CW_e D ad κ (by omega))) rfl hl.1 rfl (Nat.le_of_ble_eq_true rfl) dX3_kindOf_54 ⟨Nat.le_of_ble_eq_true rfl, Nat.le_of_ble_eq_true rfl⟩ ?_
          refine lv_aload_n hx hb dX3_kindOf_57 rfl (lv_at hl 2 rfl) ?_
          refine s_ciV (As := []) (rest := [.int (opn (κ 12 (i - 1)))]) ⟨hx, hb, hml, hown, hts⟩ (c_X2_openAngle l D B ad κ i (by assumption)) (cwV 0 hts gX3_kindOf_X2_openAngle rfl rfl rfl hdV_X2_openAngle ⟨Nat.le_of_ble_eq_true rfl, Nat.le_of_ble_eq_true rfl⟩) (sPV hJ (ci := 2) rfl (CW_e D ad κ (by omega))) rfl hl.1 rfl (Nat.le_of_ble_eq_true rfl) dX3_kindOf_58 ⟨Nat.le_of_ble_eq_true rfl, Nat.le_of_ble_eq_true rfl⟩ ?_
          refine lv_iadd hx hb dX3_kindOf_61 ?_
          refine lv_sipush (v := 180) hx hb dX3_kindOf_62 (by decide +kernel) ?_
          refine lv_icmp_ge (tgt := 72) hx hb dX3_kindOf_65 (by decide) (fun c65 => ?_) (fun c65 => ?_)
          ·
            refine lv_iconst (v := 2) hx hb dX3_kindOf_72 (by decide +kernel) ?_
            exact s_iret hx hb hr hlk dX3_kindOf_73 (kind_g hz c36 c41 c48 c65)
          ·
            refine lv_iconst (v := 1) hx hb dX3_kindOf_68 (by decide +kernel) ?_
            refine lv_goto (tgt := 73) hx hb dX3_kindOf_69 (by decide) ?_
            exact s_iret hx hb hr hlk dX3_kindOf_73 (kind_t hz c36 c41 c48 c65)
        ·
          refine lv_iconst (v := 0) hx hb dX3_kindOf_51 (by decide +kernel) ?_
          exact s_iret hx hb hr hlk dX3_kindOf_52 (kind_n hz (Or.inr (Or.inr c48)))
  ·
    refine lv_iconst (v := 0) hx hb dX3_kindOf_4 (by decide +kernel) ?_
    exact s_iret hx hb hr hlk dX3_kindOf_5 (kind_0 (by rw [hx9] at c1; exact (nI_z (by omega)).mp c1))
set_option maxRecDepth 100000 in
set_option maxHeartbeats 4000000 in
theorem c_X3_lossOf (l : Launch) (D : sD) (B : Nat) (ad : Nat → Nat) (κ : sQ) (x : Int32) (n : Nat) (i : Nat) (hn9 : κ 0 0 = nI n) (hn60 : n ≤ 60) (hx9 : x = nI i) (hi : i < n) : Met l yX3_lossOf wsX3_lossOf ({ frames := 4, cells := 0, slots := 0, locals := 78 } : Room) (sP D B (CW D ad κ) ([.ref (ad 0), .int x] : List Value)) (vp_Si (fun rr => rr = lossF (κ 12) (κ 4) (κ 9) n i)) 0 0 (fun _ => False) := by
  refine s_head (cc := cX3_lossOf) (maxL := 7) (ret := (some .int)) (by decide +kernel) rfl (Nat.le_of_ble_eq_true rfl) ?_
  intro p e s m below meth c hx hb hr hlk hml hown hnm hts hB0 ls hl
  have hJ := hB0
  have hown : s.vm.findClass RX3 = some m.cls := hown
  have hl : lv_has ls 7 [(0, .ref (ad 0)), (1, .int x)] := hl
  have k18 : (Cond.fieldLink RX3 18 "SailLog" "logged" "[LSailLog$Entry;").before ([.ref (ad 0), .int x] : List Value).toArray s = true := hts _ (by decide +kernel)
  have i3 : ∀ w ∈ wsX30, w ∈ wsX3_lossOf := by decide +kernel
  have k109 : (Cond.fieldLink RX3 109 "SailLog$Entry" "trueSpeed" "I").before ([.ref (ad 0), .int x] : List Value).toArray s = true := hts _ (by decide +kernel)
  have i2 : ∀ w ∈ wsX20, w ∈ wsX3_lossOf := by decide +kernel
  have k53 : (Cond.fieldLink RX3 53 "SailLog" "count" "I").before ([.ref (ad 0), .int x] : List Value).toArray s = true := hts _ (by decide +kernel)
  have mlmin192 : (Cond.methodLink RX3 192 Lib.Math.min.name).before ([.ref (ad 0), .int x] : List Value).toArray s = true := hts _ (by decide +kernel)
  have msmin0 : (Cond.static Lib.Math.min.name).before ([.ref (ad 0), .int x] : List Value).toArray s = true := hts _ (by decide +kernel)
  have mimin0 : (Cond.initialized "java/lang/Math").before ([.ref (ad 0), .int x] : List Value).toArray s = true := hts _ (by decide +kernel)
  have mcmin0 : (Cond.code Lib.Math.min.name Lib.Math.min.code 2 (some .int)).before ([.ref (ad 0), .int x] : List Value).toArray s = true := hts _ (by decide +kernel)
  have mlmax142 : (Cond.methodLink RX3 142 Lib.Math.max.name).before ([.ref (ad 0), .int x] : List Value).toArray s = true := hts _ (by decide +kernel)
  have msmax0 : (Cond.static Lib.Math.max.name).before ([.ref (ad 0), .int x] : List Value).toArray s = true := hts _ (by decide +kernel)
  have mimax0 : (Cond.initialized "java/lang/Math").before ([.ref (ad 0), .int x] : List Value).toArray s = true := hts _ (by decide +kernel)
  have mcmax0 : (Cond.code Lib.Math.max.name Lib.Math.max.code 2 (some .int)).before ([.ref (ad 0), .int x] : List Value).toArray s = true := hts _ (by decide +kernel)
  have k63 : (Cond.fieldLink RX3 63 "SailLog$Entry" "minute" "I").before ([.ref (ad 0), .int x] : List Value).toArray s = true := hts _ (by decide +kernel)
  refine lv_aload_n hx hb dX3_lossOf_0 rfl (lv_at hl 0 rfl) ?_
  refine lv_iload_n hx hb dX3_lossOf_1 rfl (lv_at hl 1 rfl) ?_
  refine s_ciV (As := [.int x]) (rest := []) ⟨hx, hb, hml, hown, hts⟩ (c_X3_kindOf l D B ad κ x n i (by assumption) (by assumption) (by assumption) (by assumption)) (cwV 1 hts gX3_lossOf_X3_kindOf rfl rfl rfl hdV_X3_kindOf ⟨Nat.le_of_ble_eq_true rfl, Nat.le_of_ble_eq_true rfl⟩) (sPV hJ (ci := 3) (q0 := 0) rfl rfl) rfl hl.1 rfl (Nat.le_of_ble_eq_true rfl) dX3_lossOf_2 ⟨Nat.le_of_ble_eq_true rfl, Nat.le_of_ble_eq_true rfl⟩ ?_
  refine lv_if_ne (tgt := 10) hx hb dX3_lossOf_5 (by decide) (fun c5 => ?_) (fun c5 => ?_)
  ·
    have hi1 := kind_pos c5
    have he9 : i ≤ endF n i := by unfold endF; split <;> omega
    have hen : endF n i ≤ n := by unfold endF; split <;> omega
    refine lv_aload_n hx hb dX3_lossOf_10 rfl (lv_at hl 0 rfl) ?_
    refine g3_1 hx hb hts i3 hown hJ k18 dX3_lossOf_11 ?_
    refine lv_iload_n hx hb dX3_lossOf_14 rfl (lv_at hl 1 rfl) ?_
    refine lv_iconst (v := 1) hx hb dX3_lossOf_15 (by decide +kernel) ?_
    refine lv_isub hx hb dX3_lossOf_16 ?_
    refine a_log (k := i - 1) hx hb hJ (by rw [hx9]; exact nI_pre hi1) (by omega) dX3_lossOf_17 ?_
    refine g2_5 (by omega) hx hb hts i2 hown hJ k109 dX3_lossOf_18 ?_
    refine lv_istore_n (lv' := [(2, .int (κ 9 (i - 1))), (0, .ref (ad 0)), (1, .int x)]) hx hb dX3_lossOf_21 rfl hl (by decide) rfl (fun ls hl => ?_)
    refine lv_iload_n hx hb dX3_lossOf_22 rfl (lv_at hl 2 rfl) ?_
    refine lv_iconst (v := 3) hx hb dX3_lossOf_23 (by decide +kernel) ?_
    refine lv_iadd hx hb dX3_lossOf_24 ?_
    refine lv_aload_n hx hb dX3_lossOf_25 rfl (lv_at hl 1 rfl) ?_
    refine g3_5 hx hb hts i3 hown hJ k53 dX3_lossOf_26 ?_
    refine va_mmin hx hb (hml.trans hl.1.symm) hown mlmin192 msmin0 mimin0 mcmin0 (Nat.le_of_ble_eq_true rfl) (Nat.le_of_ble_eq_true rfl) (Nat.le_of_ble_eq_true rfl) (Nat.le_of_ble_eq_true rfl) dX3_lossOf_29 ?_
    refine lv_topi (fun zz ezz => ?_)
    obtain rfl : zz = nI (endF n i) := ezz.trans (by rw [hn9, hx9]; exact end_min hn60 (by omega))
    refine lv_istore_n (lv' := [(3, .int (nI (endF n i))), (2, .int (κ 9 (i - 1))), (0, .ref (ad 0)), (1, .int x)]) hx hb dX3_lossOf_32 rfl hl (by decide) rfl (fun ls hl => ?_)
    refine lv_iconst (v := 0) hx hb dX3_lossOf_33 (by decide +kernel) ?_
    refine lv_istore (lv' := [(4, .int 0), (3, .int (nI (endF n i))), (2, .int (κ 9 (i - 1))), (0, .ref (ad 0)), (1, .int x)]) hx hb dX3_lossOf_34 hl (by decide) rfl (fun ls hl => ?_)
    refine lv_iload_n hx hb dX3_lossOf_36 rfl (lv_at hl 4 rfl) ?_
    refine lv_topi (fun zz ezz => ?_)
    obtain rfl : zz = nI i := ezz.trans (hx9)
    refine lv_istore (lv' := [(5, .int (nI i)), (4, .int 0), (3, .int (nI (endF n i))), (2, .int (κ 9 (i - 1))), (0, .ref (ad 0)), (1, .int x)]) hx hb dX3_lossOf_37 hl (by decide) rfl (fun ls hl => ?_)
    have loop39 : ∀ (fuel : Nat) (j : Nat) (sm : Int32) (hj : i + j ≤ endF n i) (hs : slowS (κ 4) (κ 9) (κ 9 (i - 1)) i j = sm) (hfu : endF n i + 1 ≤ i + j + fuel) (ls : Array Slot), lv_has ls 7 [(0, .ref (ad 0)), (2, .int (κ 9 (i - 1))), (3, .int (nI (endF n i))), (4, .int sm), (5, .int (nI (i + j)))] → W p l e ({ frames := 4, cells := 0, slots := 0, locals := 78 } : Room) s m ([.ref (ad 0), .int x] : List Value).toArray below meth c s.heap [] 0 0 (MQ below (vp_Si (fun rr => rr = lossF (κ 12) (κ 4) (κ 9) n i)) ([.ref (ad 0), .int x] : List Value).toArray s 0 0 (fun _ => False)) (F0 m 39 ls []) := by
      intro fuel
      induction fuel with
      | zero => intro j sm hj hs hfu ls hl; exact absurd (hfu) (by omega)
      | succ fuel ih39 =>
        intro j sm hj hs hfu ls hl
        refine lv_iload hx hb dX3_lossOf_39 (lv_at hl 4 rfl) ?_
        refine lv_iload_n hx hb dX3_lossOf_41 rfl (lv_at hl 2 rfl) ?_
        refine lv_icmp_ge (tgt := 100) hx hb dX3_lossOf_42 (by decide) (fun c42 => ?_) (fun c42 => ?_)
        ·
          refine lv_iload hx hb dX3_lossOf_100 (lv_at hl 3 rfl) ?_
          exact s_iret hx hb hr hlk dX3_lossOf_102 (loss_n c5 hs (by have := (nI_leI (a := endF n i) (b := i + j) (by omega) (by omega)).mp c42; omega))
        ·
          have hj2 : i + j < endF n i := by have := mt (nI_leI (a := endF n i) (b := i + j) (by omega) (by omega)).mpr c42; omega
          refine lv_iload_n hx hb dX3_lossOf_45 rfl (lv_at hl 1 rfl) ?_
          refine lv_aload_n hx hb dX3_lossOf_46 rfl (lv_at hl 0 rfl) ?_
          refine g3_1 hx hb hts i3 hown hJ k18 dX3_lossOf_47 ?_
          refine lv_iload hx hb dX3_lossOf_50 (lv_at hl 4 rfl) ?_
          refine a_log (k := i + j) hx hb hJ (rfl) (by omega) dX3_lossOf_52 ?_
          refine g2_5 (by omega) hx hb hts i2 hown hJ k109 dX3_lossOf_53 ?_
          refine lv_isub hx hb dX3_lossOf_56 ?_
          refine lv_iconst (v := 0) hx hb dX3_lossOf_57 (by decide +kernel) ?_
          refine va_mmax hx hb (hml.trans hl.1.symm) hown mlmax142 msmax0 mimax0 mcmax0 (Nat.le_of_ble_eq_true rfl) (Nat.le_of_ble_eq_true rfl) (Nat.le_of_ble_eq_true rfl) (Nat.le_of_ble_eq_true rfl) dX3_lossOf_58 ?_
          refine lv_istore (lv' := [(6, .int (if ((κ 9 (i - 1)) - (κ 9 (i + j))) < 0 then 0 else ((κ 9 (i - 1)) - (κ 9 (i + j))))), (0, .ref (ad 0)), (2, .int (κ 9 (i - 1))), (3, .int (nI (endF n i))), (4, .int sm), (5, .int (nI (i + j)))]) hx hb dX3_lossOf_61 hl (by decide) rfl (fun ls hl => ?_)
          refine lv_iload hx hb dX3_lossOf_63 (lv_at hl 4 rfl) ?_
          refine lv_iload hx hb dX3_lossOf_65 (lv_at hl 0 rfl) ?_
          refine lv_aload_n hx hb dX3_lossOf_67 rfl (lv_at hl 1 rfl) ?_
          refine g3_1 hx hb hts i3 hown hJ k18 dX3_lossOf_68 ?_
          refine lv_iload hx hb dX3_lossOf_71 (lv_at hl 5 rfl) ?_
          refine a_log (k := i + j) hx hb hJ (rfl) (by omega) dX3_lossOf_73 ?_
          refine g2_0 (by omega) hx hb hts i2 hown hJ k63 dX3_lossOf_74 ?_
          refine lv_aload_n hx hb dX3_lossOf_77 rfl (lv_at hl 1 rfl) ?_
          refine g3_1 hx hb hts i3 hown hJ k18 dX3_lossOf_78 ?_
          refine lv_iload hx hb dX3_lossOf_81 (lv_at hl 5 rfl) ?_
          refine lv_iconst (v := 1) hx hb dX3_lossOf_83 (by decide +kernel) ?_
          refine lv_isub hx hb dX3_lossOf_84 ?_
          refine a_log (k := i + j - 1) hx hb hJ (nI_pre (by omega)) (by omega) dX3_lossOf_85 ?_
          refine g2_0 (by omega) hx hb hts i2 hown hJ k63 dX3_lossOf_86 ?_
          refine lv_isub hx hb dX3_lossOf_89 ?_
          refine lv_imul hx hb dX3_lossOf_90 ?_
          refine lv_iadd hx hb dX3_lossOf_91 ?_
          refine lv_istore (lv' := [(4, .int (sm + ((if ((κ 9 (i - 1)) - (κ 9 (i + j))) < 0 then 0 else ((κ 9 (i - 1)) - (κ 9 (i + j)))) * ((κ 4 (i + j)) - (κ 4 (i + j - 1)))))), (6, .int (if ((κ 9 (i - 1)) - (κ 9 (i + j))) < 0 then 0 else ((κ 9 (i - 1)) - (κ 9 (i + j))))), (0, .ref (ad 0)), (2, .int (κ 9 (i - 1))), (3, .int (nI (endF n i))), (5, .int (nI (i + j)))]) hx hb dX3_lossOf_92 hl (by decide) rfl (fun ls hl => ?_)
          refine lv_iinc (v := nI (i + (j + 1))) (lv' := [(5, .int (nI (i + (j + 1)))), (4, .int (sm + ((if ((κ 9 (i - 1)) - (κ 9 (i + j))) < 0 then 0 else ((κ 9 (i - 1)) - (κ 9 (i + j)))) * ((κ 4 (i + j)) - (κ 4 (i + j - 1)))))), (6, .int (if ((κ 9 (i - 1)) - (κ 9 (i + j))) < 0 then 0 else ((κ 9 (i - 1)) - (κ 9 (i + j))))), (0, .ref (ad 0)), (2, .int (κ 9 (i - 1))), (3, .int (nI (endF n i)))]) hx hb dX3_lossOf_94 hl (k := 5) rfl (nI_1 (i + j)) (by decide) rfl (fun ls hl => ?_)
          refine lv_goto (tgt := 39) hx hb dX3_lossOf_97 (by decide) ?_
          exact ih39 (j + 1) _ (by omega) (slow_s hs) (by omega) _ (lv_sub hl [3, 4, 5, 1, 0] rfl)
    exact loop39 (endF n i + 1) 0 0 (by omega) rfl (by omega) _ (lv_sub hl [4, 3, 2, 1, 0] rfl)
  ·
    refine lv_iconst (v := 0) hx hb dX3_lossOf_8 (by decide +kernel) ?_
    exact s_iret hx hb hr hlk dX3_lossOf_9 (loss_0 c5)
set_option maxRecDepth 100000 in
set_option maxHeartbeats 4000000 in
theorem c_X3_turn (l : Launch) (hfl : l.flags = flags0) (D : sD) (B : Nat) (ad : Nat → Nat) (κ : sQ) (x : Int32) (n : Nat) (hn9 : κ 0 0 = nI n) (hn60 : n ≤ 60) : vx_Met l yX3_turn wsX3_turn ({ frames := 7, cells := 1, slots := 6, locals := 103 } : Room) (sP D B (CW D ad κ) ([.ref (ad 0), .int x] : List Value)) (vp_Si (fun rr => (0 ≤ x ∧ x ≤ (κ 0 0 - 1)) ∧ rr = kindF (κ 12) (iN x))) (sX (fun E => E = E_I ∧ ¬ (0 ≤ x ∧ x ≤ (κ 0 0 - 1)))) 1 6 (fun _ => False) := by
  refine s_headX (cc := cX3_turn) (maxL := 2) (ret := (some .int)) (by decide +kernel) rfl (Nat.le_of_ble_eq_true rfl) ?_
  intro p e s m below meth c hx hb hr hlk hml hown hno hts hB0 ls hl
  have hJ := hB0
  have hown : s.vm.findClass RX3 = some m.cls := hown
  have hl : lv_has ls 2 [(0, .ref (ad 0)), (1, .int x)] := hl
  refine lv_aload_n hx hb dX3_turn_0 rfl (lv_at hl 0 rfl) ?_
  refine lv_iload_n hx hb dX3_turn_1 rfl (lv_at hl 1 rfl) ?_
  refine s_xvV (As := [.int x]) (rest := []) ⟨hx, hb, hml, hown, hts⟩ (c_X3_checkEntry l hfl D B ad κ x ) (cwV 1 hts gX3_turn_X3_checkEntry rfl rfl rfl hdV_X3_checkEntry ⟨Nat.le_of_ble_eq_true rfl, Nat.le_of_ble_eq_true rfl⟩) (sPV hJ (ci := 3) (q0 := 0) rfl rfl) rfl hl.1 rfl (Nat.le_of_ble_eq_true rfl) dX3_turn_2 ⟨Nat.le_of_ble_eq_true rfl, Nat.le_of_ble_eq_true rfl⟩ hno hlk (fun E h => h) (Nat.le_of_ble_eq_true rfl) (Nat.le_of_ble_eq_true rfl) (fun c2 => ?_)
  obtain ⟨ex, hxn⟩ := ent_ok c2 hn9 hn60
  have hx60 : iN x < 60 := by omega
  refine lv_aload_n hx hb dX3_turn_5 rfl (lv_at hl 0 rfl) ?_
  refine lv_iload_n hx hb dX3_turn_6 rfl (lv_at hl 1 rfl) ?_
  refine s_ciV (As := [.int x]) (rest := []) ⟨hx, hb, hml, hown, hts⟩ (c_X3_kindOf l D B ad κ x n (iN x) (by assumption) (by assumption) (ex) (by omega)) (cwV 1 hts gX3_turn_X3_kindOf rfl rfl rfl hdV_X3_kindOf ⟨Nat.le_of_ble_eq_true rfl, Nat.le_of_ble_eq_true rfl⟩) (sPV hJ (ci := 3) (q0 := 0) rfl rfl) rfl hl.1 rfl (Nat.le_of_ble_eq_true rfl) dX3_turn_7 ⟨Nat.le_of_ble_eq_true rfl, Nat.le_of_ble_eq_true rfl⟩ ?_
  exact s_xiret hx hb hr hlk dX3_turn_10 (c2) (rfl) (Nat.le_of_ble_eq_true rfl) (Nat.le_of_ble_eq_true rfl)
set_option maxRecDepth 100000 in
set_option maxHeartbeats 4000000 in
theorem c_X3_cost (l : Launch) (hfl : l.flags = flags0) (D : sD) (B : Nat) (ad : Nat → Nat) (κ : sQ) (x : Int32) (n : Nat) (hn9 : κ 0 0 = nI n) (hn60 : n ≤ 60) : vx_Met l yX3_cost wsX3_cost ({ frames := 7, cells := 1, slots := 6, locals := 104 } : Room) (sP D B (CW D ad κ) ([.ref (ad 0), .int x] : List Value)) (vp_Si (fun rr => (0 ≤ x ∧ x ≤ (κ 0 0 - 1)) ∧ rr = lossF (κ 12) (κ 4) (κ 9) n (iN x))) (sX (fun E => E = E_I ∧ ¬ (0 ≤ x ∧ x ≤ (κ 0 0 - 1)))) 1 6 (fun _ => False) := by
  refine s_headX (cc := cX3_cost) (maxL := 2) (ret := (some .int)) (by decide +kernel) rfl (Nat.le_of_ble_eq_true rfl) ?_
  intro p e s m below meth c hx hb hr hlk hml hown hno hts hB0 ls hl
  have hJ := hB0
  have hown : s.vm.findClass RX3 = some m.cls := hown
  have hl : lv_has ls 2 [(0, .ref (ad 0)), (1, .int x)] := hl
  refine lv_aload_n hx hb dX3_cost_0 rfl (lv_at hl 0 rfl) ?_
  refine lv_iload_n hx hb dX3_cost_1 rfl (lv_at hl 1 rfl) ?_
  refine s_xvV (As := [.int x]) (rest := []) ⟨hx, hb, hml, hown, hts⟩ (c_X3_checkEntry l hfl D B ad κ x ) (cwV 1 hts gX3_cost_X3_checkEntry rfl rfl rfl hdV_X3_checkEntry ⟨Nat.le_of_ble_eq_true rfl, Nat.le_of_ble_eq_true rfl⟩) (sPV hJ (ci := 3) (q0 := 0) rfl rfl) rfl hl.1 rfl (Nat.le_of_ble_eq_true rfl) dX3_cost_2 ⟨Nat.le_of_ble_eq_true rfl, Nat.le_of_ble_eq_true rfl⟩ hno hlk (fun E h => h) (Nat.le_of_ble_eq_true rfl) (Nat.le_of_ble_eq_true rfl) (fun c2 => ?_)
  obtain ⟨ex, hxn⟩ := ent_ok c2 hn9 hn60
  have hx60 : iN x < 60 := by omega
  refine lv_aload_n hx hb dX3_cost_5 rfl (lv_at hl 0 rfl) ?_
  refine lv_iload_n hx hb dX3_cost_6 rfl (lv_at hl 1 rfl) ?_
  refine s_ciV (As := [.int x]) (rest := []) ⟨hx, hb, hml, hown, hts⟩ (c_X3_lossOf l D B ad κ x n (iN x) (by assumption) (by assumption) (ex) (by omega)) (cwV 1 hts gX3_cost_X3_lossOf rfl rfl rfl hdV_X3_lossOf ⟨Nat.le_of_ble_eq_true rfl, Nat.le_of_ble_eq_true rfl⟩) (sPV hJ (ci := 3) (q0 := 0) rfl rfl) rfl hl.1 rfl (Nat.le_of_ble_eq_true rfl) dX3_cost_7 ⟨Nat.le_of_ble_eq_true rfl, Nat.le_of_ble_eq_true rfl⟩ ?_
  exact s_xiret hx hb hr hlk dX3_cost_10 (c2) (rfl) (Nat.le_of_ble_eq_true rfl) (Nat.le_of_ble_eq_true rfl)
set_option maxRecDepth 100000 in
set_option maxHeartbeats 4000000 in
theorem c_X3_costs (l : Launch) (hfl : l.flags = flags0) (D : sD) (B : Nat) (ad : Nat → Nat) (κ : sQ) (x : Int32) (n : Nat) (hn9 : κ 0 0 = nI n) (hn60 : n ≤ 60) : vx_Met l yX3_costs wsX3_costs ({ frames := 7, cells := 1, slots := 6, locals := 104 } : Room) (sP D B (CW D ad κ) ([.ref (ad 0), .int x] : List Value)) (vp_Si (fun rr => (x = 1 ∨ x = 2) ∧ rr = costF (κ 12) (κ 4) (κ 9) n x n)) (sX (fun E => E = E_A ∧ ¬ (x = 1 ∨ x = 2))) 1 6 (fun _ => False) := by
  refine s_headX (cc := cX3_costs) (maxL := 4) (ret := (some .int)) (by decide +kernel) rfl (Nat.le_of_ble_eq_true rfl) ?_
  intro p e s m below meth c hx hb hr hlk hml hown hno hts hB0 ls hl
  have hJ := hB0
  have hown : s.vm.findClass RX3 = some m.cls := hown
  have hl : lv_has ls 4 [(0, .ref (ad 0)), (1, .int x)] := hl
  have k53 : (Cond.fieldLink RX3 53 "SailLog" "count" "I").before ([.ref (ad 0), .int x] : List Value).toArray s = true := hts _ (by decide +kernel)
  have i3 : ∀ w ∈ wsX30, w ∈ wsX3_costs := by decide +kernel
  have j15 : ∀ (v9 : Int32) (hv9 : v9 = bI (x = 1 ∨ x = 2)) (ls : Array Slot), lv_has ls 4 [(0, .ref (ad 0)), (1, .int x)] → W p l e ({ frames := 7, cells := 1, slots := 6, locals := 104 } : Room) s m ([.ref (ad 0), .int x] : List Value).toArray below meth c s.heap [] 0 0 (vx_MQ below (vp_Si (fun rr => (x = 1 ∨ x = 2) ∧ rr = costF (κ 12) (κ 4) (κ 9) n x n)) (sX (fun E => E = E_A ∧ ¬ (x = 1 ∨ x = 2))) ([.ref (ad 0), .int x] : List Value).toArray s 1 6 (fun _ => False)) (F0 m 15 ls [.int v9]) := by
    intro v9 hv9 ls hl
    subst hv9
    refine s_xvS (As := [.int (bI (x = 1 ∨ x = 2))]) (rest := []) ⟨hx, hb, hml, hown, hts⟩ (c_X3_checkArgument l hfl D B ad κ (bI (x = 1 ∨ x = 2)) ) (va_cwS 1 hts gX3_costs_X3_checkArgument rfl rfl rfl hdS_X3_checkArgument ⟨Nat.le_of_ble_eq_true rfl, Nat.le_of_ble_eq_true rfl⟩) (sPS hJ) rfl hl.1 rfl (Nat.le_of_ble_eq_true rfl) dX3_costs_15 ⟨Nat.le_of_ble_eq_true rfl, Nat.le_of_ble_eq_true rfl⟩ hno hlk (fun E h => ⟨h.1, bI_0.mp h.2⟩) (Nat.le_of_ble_eq_true rfl) (Nat.le_of_ble_eq_true rfl) (fun c15 => ?_)
    replace c15 := bI_n0.mp c15
    refine lv_iconst (v := 0) hx hb dX3_costs_18 (by decide +kernel) ?_
    refine lv_istore_n (lv' := [(2, .int 0), (0, .ref (ad 0)), (1, .int x)]) hx hb dX3_costs_19 rfl hl (by decide) rfl (fun ls hl => ?_)
    refine lv_iconst (v := 0) hx hb dX3_costs_20 (by decide +kernel) ?_
    refine lv_istore_n (lv' := [(3, .int 0), (2, .int 0), (0, .ref (ad 0)), (1, .int x)]) hx hb dX3_costs_21 rfl hl (by decide) rfl (fun ls hl => ?_)
    have loop22 : ∀ (fuel : Nat) (j : Nat) (sm : Int32) (hj : j ≤ n) (hs : costF (κ 12) (κ 4) (κ 9) n x j = sm) (hfu : n + 1 ≤ j + fuel) (ls : Array Slot), lv_has ls 4 [(0, .ref (ad 0)), (1, .int x), (2, .int sm), (3, .int (nI j))] → W p l e ({ frames := 7, cells := 1, slots := 6, locals := 104 } : Room) s m ([.ref (ad 0), .int x] : List Value).toArray below meth c s.heap [] 1 6 (vx_MQ below (vp_Si (fun rr => (x = 1 ∨ x = 2) ∧ rr = costF (κ 12) (κ 4) (κ 9) n x n)) (sX (fun E => E = E_A ∧ ¬ (x = 1 ∨ x = 2))) ([.ref (ad 0), .int x] : List Value).toArray s 1 6 (fun _ => False)) (F0 m 22 ls []) := by
      intro fuel
      induction fuel with
      | zero => intro j sm hj hs hfu ls hl; exact absurd (hfu) (by omega)
      | succ fuel ih22 =>
        intro j sm hj hs hfu ls hl
        refine lv_iload_n hx hb dX3_costs_22 rfl (lv_at hl 3 rfl) ?_
        refine lv_aload_n hx hb dX3_costs_23 rfl (lv_at hl 0 rfl) ?_
        refine g3_5 hx hb hts i3 hown hJ k53 dX3_costs_24 ?_
        refine lv_icmp_ge (tgt := 53) hx hb dX3_costs_27 (by decide) (fun c27 => ?_) (fun c27 => ?_)
        ·
          refine lv_iload_n hx hb dX3_costs_53 rfl (lv_at hl 2 rfl) ?_
          exact s_xiret hx hb hr hlk dX3_costs_54 (c15) (by rw [hn9] at c27; rw [← hs, show j = n from by have := (nI_leI (a := n) (b := j) (by omega) (by omega)).mp c27; omega]) (Nat.le_of_ble_eq_true rfl) (Nat.le_of_ble_eq_true rfl)
        ·
          rw [hn9] at c27
          have hj2 : j < n := by have := mt (nI_leI (a := n) (b := j) (by omega) (by omega)).mpr c27; omega
          refine lv_aload_n hx hb dX3_costs_30 rfl (lv_at hl 0 rfl) ?_
          refine lv_iload_n hx hb dX3_costs_31 rfl (lv_at hl 3 rfl) ?_
          refine s_ciV (As := [.int (nI j)]) (rest := []) ⟨hx, hb, hml, hown, hts⟩ (c_X3_kindOf l D B ad κ (nI j) n j (by assumption) (by assumption) (rfl) (hj2)) (cwV 1 hts gX3_costs_X3_kindOf rfl rfl rfl hdV_X3_kindOf ⟨Nat.le_of_ble_eq_true rfl, Nat.le_of_ble_eq_true rfl⟩) (sPV hJ (ci := 3) (q0 := 0) rfl rfl) rfl hl.1 rfl (Nat.le_of_ble_eq_true rfl) dX3_costs_32 ⟨Nat.le_of_ble_eq_true rfl, Nat.le_of_ble_eq_true rfl⟩ ?_
          refine lv_iload_n hx hb dX3_costs_35 rfl (lv_at hl 1 rfl) ?_
          refine lv_icmp_ne (tgt := 47) hx hb dX3_costs_36 (by decide) (fun c36 => ?_) (fun c36 => ?_)
          ·
            refine lv_iinc (v := nI (j + 1)) (lv' := [(3, .int (nI (j + 1))), (0, .ref (ad 0)), (1, .int x), (2, .int sm)]) hx hb dX3_costs_47 hl (k := 3) rfl (nI_1 j) (by decide) rfl (fun ls hl => ?_)
            refine lv_goto (tgt := 22) hx hb dX3_costs_50 (by decide) ?_
            exact ih22 (j + 1) sm (by omega) (cost_n hs c36) (by omega) _ (lv_sub hl [1, 2, 3, 0] rfl)
          ·
            refine lv_iload_n hx hb dX3_costs_39 rfl (lv_at hl 2 rfl) ?_
            refine lv_aload_n hx hb dX3_costs_40 rfl (lv_at hl 0 rfl) ?_
            refine lv_iload_n hx hb dX3_costs_41 rfl (lv_at hl 3 rfl) ?_
            refine s_ciV (As := [.int (nI j)]) (rest := [.int sm]) ⟨hx, hb, hml, hown, hts⟩ (c_X3_lossOf l D B ad κ (nI j) n j (by assumption) (by assumption) (rfl) (hj2)) (cwV 1 hts gX3_costs_X3_lossOf rfl rfl rfl hdV_X3_lossOf ⟨Nat.le_of_ble_eq_true rfl, Nat.le_of_ble_eq_true rfl⟩) (sPV hJ (ci := 3) (q0 := 0) rfl rfl) rfl hl.1 rfl (Nat.le_of_ble_eq_true rfl) dX3_costs_42 ⟨Nat.le_of_ble_eq_true rfl, Nat.le_of_ble_eq_true rfl⟩ ?_
            refine lv_iadd hx hb dX3_costs_45 ?_
            refine lv_istore_n (lv' := [(2, .int (sm + (lossF (κ 12) (κ 4) (κ 9) n j))), (0, .ref (ad 0)), (1, .int x), (3, .int (nI j))]) hx hb dX3_costs_46 rfl hl (by decide) rfl (fun ls hl => ?_)
            refine lv_iinc (v := nI (j + 1)) (lv' := [(3, .int (nI (j + 1))), (2, .int (sm + (lossF (κ 12) (κ 4) (κ 9) n j))), (0, .ref (ad 0)), (1, .int x)]) hx hb dX3_costs_47 hl (k := 3) rfl (nI_1 j) (by decide) rfl (fun ls hl => ?_)
            refine lv_goto (tgt := 22) hx hb dX3_costs_50 (by decide) ?_
            exact ih22 (j + 1) _ (by omega) (cost_y hs c36) (by omega) _ (lv_sub hl [2, 3, 1, 0] rfl)
    exact loop22 (n + 1) 0 0 (by omega) rfl (by omega) _ (lv_sub hl [2, 3, 1, 0] rfl)
  refine lv_iload_n hx hb dX3_costs_0 rfl (lv_at hl 1 rfl) ?_
  refine lv_iconst (v := 1) hx hb dX3_costs_1 (by decide +kernel) ?_
  refine lv_icmp_eq (tgt := 10) hx hb dX3_costs_2 (by decide) (fun c2 => ?_) (fun c2 => ?_)
  ·
    refine lv_iconst (v := 1) hx hb dX3_costs_10 (by decide +kernel) ?_
    refine lv_goto (tgt := 15) hx hb dX3_costs_11 (by decide) ?_
    exact j15 1 ((bI_t (Or.inl c2)).symm) _ (lv_sub hl [0, 1] rfl)
  ·
    refine lv_iload_n hx hb dX3_costs_5 rfl (lv_at hl 1 rfl) ?_
    refine lv_iconst (v := 2) hx hb dX3_costs_6 (by decide +kernel) ?_
    refine lv_icmp_ne (tgt := 14) hx hb dX3_costs_7 (by decide) (fun c7 => ?_) (fun c7 => ?_)
    ·
      refine lv_iconst (v := 0) hx hb dX3_costs_14 (by decide +kernel) ?_
      exact j15 0 ((bI_f (fun h => h.elim c2 c7)).symm) _ (lv_sub hl [0, 1] rfl)
    ·
      refine lv_iconst (v := 1) hx hb dX3_costs_10 (by decide +kernel) ?_
      refine lv_goto (tgt := 15) hx hb dX3_costs_11 (by decide) ?_
      exact j15 1 ((bI_t (Or.inr c7)).symm) _ (lv_sub hl [0, 1] rfl)
set_option maxRecDepth 100000 in
set_option maxHeartbeats 4000000 in
theorem c_X3_distance (l : Launch) (D : sD) (B : Nat) (ad : Nat → Nat) (κ : sQ) (x : Int32) (t : Int32) (n : Nat) (i : Nat) (hn9 : κ 0 0 = nI n) (hn60 : n ≤ 60) (hx9 : x = nI i) (hi : i < n) (hmi : ∀ i, i < n → ∃ k, k < 1440 ∧ κ 4 i = nI k) : Met l yX3_distance wsX3_distance ({ frames := 2, cells := 0, slots := 0, locals := 43 } : Room) (sP D B (CW D ad κ) ([.ref (ad 0), .int x, .int t] : List Value)) (vp_Si (fun rr => rr = (fd6 (wayS (κ 4) (κ 9) (κ 10) (κ 2) (κ 3) t i)).toInt32)) 0 0 (fun _ => False) := by
  refine s_head (cc := cX3_distance) (maxL := 12) (ret := (some .int)) (by decide +kernel) rfl (Nat.le_of_ble_eq_true rfl) ?_
  intro p e s m below meth c hx hb hr hlk hml hown hnm hts hB0 ls hl
  have hJ := hB0
  have hown : s.vm.findClass RX3 = some m.cls := hown
  have hl : lv_has ls 12 [(0, .ref (ad 0)), (1, .int x), (2, .int t)] := hl
  have k214 : (Cond.constantLong RX3 214 (6000)).before ([.ref (ad 0), .int x, .int t] : List Value).toArray s = true := hts _ (by decide +kernel)
  have k18 : (Cond.fieldLink RX3 18 "SailLog" "logged" "[LSailLog$Entry;").before ([.ref (ad 0), .int x, .int t] : List Value).toArray s = true := hts _ (by decide +kernel)
  have i3 : ∀ w ∈ wsX30, w ∈ wsX3_distance := by decide +kernel
  have k63 : (Cond.fieldLink RX3 63 "SailLog$Entry" "minute" "I").before ([.ref (ad 0), .int x, .int t] : List Value).toArray s = true := hts _ (by decide +kernel)
  have i2 : ∀ w ∈ wsX20, w ∈ wsX3_distance := by decide +kernel
  have k109 : (Cond.fieldLink RX3 109 "SailLog$Entry" "trueSpeed" "I").before ([.ref (ad 0), .int x, .int t] : List Value).toArray s = true := hts _ (by decide +kernel)
  have k12 : (Cond.fieldLink RX3 12 "SailLog" "circle" "LSailLog$Circle;").before ([.ref (ad 0), .int x, .int t] : List Value).toArray s = true := hts _ (by decide +kernel)
  have k118 : (Cond.fieldLink RX3 118 "SailLog$Entry" "trueHeading" "I").before ([.ref (ad 0), .int x, .int t] : List Value).toArray s = true := hts _ (by decide +kernel)
  have k34 : (Cond.fieldLink RX3 34 "SailLog" "tideDrifts" "[I").before ([.ref (ad 0), .int x, .int t] : List Value).toArray s = true := hts _ (by decide +kernel)
  have k30 : (Cond.fieldLink RX3 30 "SailLog" "tideDirections" "[I").before ([.ref (ad 0), .int x, .int t] : List Value).toArray s = true := hts _ (by decide +kernel)
  refine lv_lconst (v := 0) hx hb dX3_distance_0 (by decide +kernel) ?_
  refine lv_lstore_n (lv' := [(3, .long 0), (0, .ref (ad 0)), (1, .int x), (2, .int t)]) hx hb dX3_distance_1 rfl hl (by decide) rfl (fun ls hl => ?_)
  refine lv_iconst (v := 0) hx hb dX3_distance_2 (by decide +kernel) ?_
  refine lv_istore (lv' := [(5, .int 0), (3, .long 0), (0, .ref (ad 0)), (1, .int x), (2, .int t)]) hx hb dX3_distance_3 hl (by decide) rfl (fun ls hl => ?_)
  have loop5 : ∀ (fuel : Nat) (j : Nat) (sm : Int64) (hj : j ≤ i) (hs : wayS (κ 4) (κ 9) (κ 10) (κ 2) (κ 3) t j = sm) (hfu : i + 1 ≤ j + fuel) (ls : Array Slot), lv_has ls 12 [(0, .ref (ad 0)), (1, .int x), (2, .int t), (3, .long sm), (5, .int (nI j))] → W p l e ({ frames := 2, cells := 0, slots := 0, locals := 43 } : Room) s m ([.ref (ad 0), .int x, .int t] : List Value).toArray below meth c s.heap [] 0 0 (MQ below (vp_Si (fun rr => rr = (fd6 (wayS (κ 4) (κ 9) (κ 10) (κ 2) (κ 3) t i)).toInt32)) ([.ref (ad 0), .int x, .int t] : List Value).toArray s 0 0 (fun _ => False)) (F0 m 5 ls []) := by
    intro fuel
    induction fuel with
    | zero => intro j sm hj hs hfu ls hl; exact absurd (hfu) (by omega)
    | succ fuel ih5 =>
      intro j sm hj hs hfu ls hl
      refine lv_iload hx hb dX3_distance_5 (lv_at hl 4 rfl) ?_
      refine lv_iload_n hx hb dX3_distance_7 rfl (lv_at hl 1 rfl) ?_
      refine lv_icmp_ge (tgt := 116) hx hb dX3_distance_8 (by decide) (fun c8 => ?_) (fun c8 => ?_)
      ·
        refine lv_lload_n hx hb dX3_distance_116 rfl (lv_at hl 3 rfl) ?_
        refine lv_ldc2 (own := RX3) hx hb hown k214 dX3_distance_117 ?_
        refine s_clS (As := [.long sm, .long 6000]) (rest := []) ⟨hx, hb, hml, hown, hts⟩ (c_J9_floorDiv_f86c9 l sm ) (va_cwS 2 hts gX3_distance_J9_floorDiv_f86c9 rfl rfl rfl hdS_J9_floorDiv_f86c9 ⟨Nat.le_of_ble_eq_true rfl, Nat.le_of_ble_eq_true rfl⟩) sPS0 rfl hl.1 rfl (Nat.le_of_ble_eq_true rfl) dX3_distance_120 ⟨Nat.le_of_ble_eq_true rfl, Nat.le_of_ble_eq_true rfl⟩ ?_
        refine lv_l2i hx hb dX3_distance_123 rfl ?_
        exact s_iret hx hb hr hlk dX3_distance_124 (by rw [hx9] at c8; rw [← hs, show j = i from by have := (nI_leI (a := i) (b := j) (by omega) (by omega)).mp c8; omega])
      ·
        rw [hx9] at c8
        have hj2 : j < i := by have := mt (nI_leI (a := i) (b := j) (by omega) (by omega)).mpr c8; omega
        have hi60 : j < 60 := by omega
        obtain ⟨eh, hh24⟩ := hN_ok (hmi j (by omega))
        refine lv_aload_n hx hb dX3_distance_11 rfl (lv_at hl 0 rfl) ?_
        refine g3_1 hx hb hts i3 hown hJ k18 dX3_distance_12 ?_
        refine lv_iload hx hb dX3_distance_15 (lv_at hl 4 rfl) ?_
        refine a_log (k := j) hx hb hJ (rfl) (by omega) dX3_distance_17 ?_
        refine lv_astore (lv' := [(6, .ref (ad (8 + j))), (0, .ref (ad 0)), (1, .int x), (2, .int t), (3, .long sm), (5, .int (nI j))]) hx hb dX3_distance_18 hl (by decide) rfl (fun ls hl => ?_)
        refine lv_aload hx hb dX3_distance_20 (lv_at hl 0 rfl) ?_
        refine g2_0 (by omega) hx hb hts i2 hown hJ k63 dX3_distance_22 ?_
        refine lv_bipush (v := 60) hx hb dX3_distance_25 (by decide +kernel) ?_
        refine lv_idiv hx hb dX3_distance_27 (by decide +kernel) ?_
        refine lv_istore (lv' := [(7, .int ((κ 4 j) / 60)), (6, .ref (ad (8 + j))), (0, .ref (ad 0)), (1, .int x), (2, .int t), (3, .long sm), (5, .int (nI j))]) hx hb dX3_distance_28 hl (by decide) rfl (fun ls hl => ?_)
        refine lv_aload hx hb dX3_distance_30 (lv_at hl 1 rfl) ?_
        refine g2_5 (by omega) hx hb hts i2 hown hJ k109 dX3_distance_32 ?_
        refine lv_i2l hx hb dX3_distance_35 rfl ?_
        refine lv_aload_n hx hb dX3_distance_36 rfl (lv_at hl 2 rfl) ?_
        refine g3_0 hx hb hts i3 hown hJ k12 dX3_distance_37 ?_
        refine lv_aload hx hb dX3_distance_40 (lv_at hl 1 rfl) ?_
        refine g2_6 (by omega) hx hb hts i2 hown hJ k118 dX3_distance_42 ?_
        refine lv_iload_n hx hb dX3_distance_45 rfl (lv_at hl 4 rfl) ?_
        refine lv_iadd hx hb dX3_distance_46 ?_
        refine s_ciV (As := [.int ((κ 10 j) + t)]) (rest := [.long ((κ 9 j).toInt64)]) ⟨hx, hb, hml, hown, hts⟩ (c_X1_sineOf l D B ad κ ((κ 10 j) + t) ) (cwV 1 hts gX3_distance_X1_sineOf rfl rfl rfl hdV_X1_sineOf ⟨Nat.le_of_ble_eq_true rfl, Nat.le_of_ble_eq_true rfl⟩) (sPV hJ (ci := 1) (q0 := 1) rfl rfl) rfl hl.1 rfl (Nat.le_of_ble_eq_true rfl) dX3_distance_47 ⟨Nat.le_of_ble_eq_true rfl, Nat.le_of_ble_eq_true rfl⟩ ?_
        refine lv_i2l hx hb dX3_distance_50 rfl ?_
        refine lv_lmul hx hb dX3_distance_51 ?_
        refine lv_lstore (lv' := [(8, .long (((κ 9 j).toInt64) * ((sn ((κ 10 j) + t)).toInt64))), (7, .int ((κ 4 j) / 60)), (6, .ref (ad (8 + j))), (0, .ref (ad 0)), (1, .int x), (2, .int t), (3, .long sm), (5, .int (nI j))]) hx hb dX3_distance_52 hl (by decide) rfl (fun ls hl => ?_)
        refine lv_aload_n hx hb dX3_distance_54 rfl (lv_at hl 3 rfl) ?_
        refine g3_4 hx hb hts i3 hown hJ k34 dX3_distance_55 ?_
        refine lv_iload hx hb dX3_distance_58 (lv_at hl 1 rfl) ?_
        refine a_dri (k := hN (κ 4 j)) hx hb hJ (eh) (hh24) dX3_distance_60 ?_
        refine lv_i2l hx hb dX3_distance_61 rfl ?_
        refine lv_aload_n hx hb dX3_distance_62 rfl (lv_at hl 3 rfl) ?_
        refine g3_0 hx hb hts i3 hown hJ k12 dX3_distance_63 ?_
        refine lv_aload_n hx hb dX3_distance_66 rfl (lv_at hl 3 rfl) ?_
        refine g3_3 hx hb hts i3 hown hJ k30 dX3_distance_67 ?_
        refine lv_iload hx hb dX3_distance_70 (lv_at hl 1 rfl) ?_
        refine a_dir (k := hN (κ 4 j)) hx hb hJ (eh) (hh24) dX3_distance_72 ?_
        refine lv_iload_n hx hb dX3_distance_73 rfl (lv_at hl 5 rfl) ?_
        refine lv_iadd hx hb dX3_distance_74 ?_
        refine s_ciV (As := [.int ((κ 2 (hN (κ 4 j))) + t)]) (rest := [.long ((κ 3 (hN (κ 4 j))).toInt64)]) ⟨hx, hb, hml, hown, hts⟩ (c_X1_sineOf l D B ad κ ((κ 2 (hN (κ 4 j))) + t) ) (cwV 1 hts gX3_distance_X1_sineOf rfl rfl rfl hdV_X1_sineOf ⟨Nat.le_of_ble_eq_true rfl, Nat.le_of_ble_eq_true rfl⟩) (sPV hJ (ci := 1) (q0 := 1) rfl rfl) rfl hl.1 rfl (Nat.le_of_ble_eq_true rfl) dX3_distance_75 ⟨Nat.le_of_ble_eq_true rfl, Nat.le_of_ble_eq_true rfl⟩ ?_
        refine lv_i2l hx hb dX3_distance_78 rfl ?_
        refine lv_lmul hx hb dX3_distance_79 ?_
        refine lv_lstore (lv' := [(10, .long (((κ 3 (hN (κ 4 j))).toInt64) * ((sn ((κ 2 (hN (κ 4 j))) + t)).toInt64))), (8, .long (((κ 9 j).toInt64) * ((sn ((κ 10 j) + t)).toInt64))), (7, .int ((κ 4 j) / 60)), (6, .ref (ad (8 + j))), (0, .ref (ad 0)), (1, .int x), (2, .int t), (3, .long sm), (5, .int (nI j))]) hx hb dX3_distance_80 hl (by decide) rfl (fun ls hl => ?_)
        refine lv_lload_n hx hb dX3_distance_82 rfl (lv_at hl 7 rfl) ?_
        refine lv_lload hx hb dX3_distance_83 (lv_at hl 1 rfl) ?_
        refine lv_lload hx hb dX3_distance_85 (lv_at hl 0 rfl) ?_
        refine lv_ladd hx hb dX3_distance_87 ?_
        refine lv_aload_n hx hb dX3_distance_88 rfl (lv_at hl 4 rfl) ?_
        refine g3_1 hx hb hts i3 hown hJ k18 dX3_distance_89 ?_
        refine lv_iload hx hb dX3_distance_92 (lv_at hl 8 rfl) ?_
        refine lv_iconst (v := 1) hx hb dX3_distance_94 (by decide +kernel) ?_
        refine lv_iadd hx hb dX3_distance_95 ?_
        refine a_log (k := j + 1) hx hb hJ (nI_1 j) (by omega) dX3_distance_96 ?_
        refine g2_0 (by omega) hx hb hts i2 hown hJ k63 dX3_distance_97 ?_
        refine lv_aload hx hb dX3_distance_100 (lv_at hl 3 rfl) ?_
        refine g2_0 (by omega) hx hb hts i2 hown hJ k63 dX3_distance_102 ?_
        refine lv_isub hx hb dX3_distance_105 ?_
        refine lv_i2l hx hb dX3_distance_106 rfl ?_
        refine lv_lmul hx hb dX3_distance_107 ?_
        refine lv_ladd hx hb dX3_distance_108 ?_
        refine lv_lstore_n (lv' := [(3, .long (sm + (((((κ 9 j).toInt64) * ((sn ((κ 10 j) + t)).toInt64)) + (((κ 3 (hN (κ 4 j))).toInt64) * ((sn ((κ 2 (hN (κ 4 j))) + t)).toInt64))) * (((κ 4 (j + 1)) - (κ 4 j)).toInt64)))), (10, .long (((κ 3 (hN (κ 4 j))).toInt64) * ((sn ((κ 2 (hN (κ 4 j))) + t)).toInt64))), (8, .long (((κ 9 j).toInt64) * ((sn ((κ 10 j) + t)).toInt64))), (7, .int ((κ 4 j) / 60)), (6, .ref (ad (8 + j))), (0, .ref (ad 0)), (1, .int x), (2, .int t), (5, .int (nI j))]) hx hb dX3_distance_109 rfl hl (by decide) rfl (fun ls hl => ?_)
        refine lv_iinc (v := nI (j + 1)) (lv' := [(5, .int (nI (j + 1))), (3, .long (sm + (((((κ 9 j).toInt64) * ((sn ((κ 10 j) + t)).toInt64)) + (((κ 3 (hN (κ 4 j))).toInt64) * ((sn ((κ 2 (hN (κ 4 j))) + t)).toInt64))) * (((κ 4 (j + 1)) - (κ 4 j)).toInt64)))), (10, .long (((κ 3 (hN (κ 4 j))).toInt64) * ((sn ((κ 2 (hN (κ 4 j))) + t)).toInt64))), (8, .long (((κ 9 j).toInt64) * ((sn ((κ 10 j) + t)).toInt64))), (7, .int ((κ 4 j) / 60)), (6, .ref (ad (8 + j))), (0, .ref (ad 0)), (1, .int x), (2, .int t)]) hx hb dX3_distance_110 hl (k := 8) rfl (nI_1 j) (by decide) rfl (fun ls hl => ?_)
        refine lv_goto (tgt := 5) hx hb dX3_distance_113 (by decide) ?_
        exact ih5 (j + 1) _ (by omega) (way_s hs) (by omega) _ (lv_sub hl [6, 7, 8, 1, 0] rfl)
  exact loop5 (i + 1) 0 0 (by omega) rfl (by omega) _ (lv_sub hl [2, 3, 4, 1, 0] rfl)
set_option maxRecDepth 100000 in
set_option maxHeartbeats 4000000 in
theorem c_X3_east (l : Launch) (hfl : l.flags = flags0) (D : sD) (B : Nat) (ad : Nat → Nat) (κ : sQ) (x : Int32) (n : Nat) (hn9 : κ 0 0 = nI n) (hn60 : n ≤ 60) (hmi : ∀ i, i < n → ∃ k, k < 1440 ∧ κ 4 i = nI k) : vx_Met l yX3_east wsX3_east ({ frames := 7, cells := 1, slots := 6, locals := 103 } : Room) (sP D B (CW D ad κ) ([.ref (ad 0), .int x] : List Value)) (vp_Si (fun rr => (0 ≤ x ∧ x ≤ (κ 0 0 - 1)) ∧ rr = (fd6 (wayS (κ 4) (κ 9) (κ 10) (κ 2) (κ 3) 0 (iN x))).toInt32)) (sX (fun E => E = E_I ∧ ¬ (0 ≤ x ∧ x ≤ (κ 0 0 - 1)))) 1 6 (fun _ => False) := by
  refine s_headX (cc := cX3_east) (maxL := 2) (ret := (some .int)) (by decide +kernel) rfl (Nat.le_of_ble_eq_true rfl) ?_
  intro p e s m below meth c hx hb hr hlk hml hown hno hts hB0 ls hl
  have hJ := hB0
  have hown : s.vm.findClass RX3 = some m.cls := hown
  have hl : lv_has ls 2 [(0, .ref (ad 0)), (1, .int x)] := hl
  refine lv_aload_n hx hb dX3_east_0 rfl (lv_at hl 0 rfl) ?_
  refine lv_iload_n hx hb dX3_east_1 rfl (lv_at hl 1 rfl) ?_
  refine s_xvV (As := [.int x]) (rest := []) ⟨hx, hb, hml, hown, hts⟩ (c_X3_checkEntry l hfl D B ad κ x ) (cwV 1 hts gX3_east_X3_checkEntry rfl rfl rfl hdV_X3_checkEntry ⟨Nat.le_of_ble_eq_true rfl, Nat.le_of_ble_eq_true rfl⟩) (sPV hJ (ci := 3) (q0 := 0) rfl rfl) rfl hl.1 rfl (Nat.le_of_ble_eq_true rfl) dX3_east_2 ⟨Nat.le_of_ble_eq_true rfl, Nat.le_of_ble_eq_true rfl⟩ hno hlk (fun E h => h) (Nat.le_of_ble_eq_true rfl) (Nat.le_of_ble_eq_true rfl) (fun c2 => ?_)
  obtain ⟨ex, hxn⟩ := ent_ok c2 hn9 hn60
  have hx60 : iN x < 60 := by omega
  refine lv_aload_n hx hb dX3_east_5 rfl (lv_at hl 0 rfl) ?_
  refine lv_iload_n hx hb dX3_east_6 rfl (lv_at hl 1 rfl) ?_
  refine lv_iconst (v := 0) hx hb dX3_east_7 (by decide +kernel) ?_
  refine s_ciV (As := [.int x, .int 0]) (rest := []) ⟨hx, hb, hml, hown, hts⟩ (c_X3_distance l D B ad κ x 0 n (iN x) (by assumption) (by assumption) (ex) (by omega) (by assumption)) (cwV 2 hts gX3_east_X3_distance rfl rfl rfl hdV_X3_distance ⟨Nat.le_of_ble_eq_true rfl, Nat.le_of_ble_eq_true rfl⟩) (sPV hJ (ci := 3) (q0 := 0) rfl rfl) rfl hl.1 rfl (Nat.le_of_ble_eq_true rfl) dX3_east_8 ⟨Nat.le_of_ble_eq_true rfl, Nat.le_of_ble_eq_true rfl⟩ ?_
  exact s_xiret hx hb hr hlk dX3_east_11 (c2) (rfl) (Nat.le_of_ble_eq_true rfl) (Nat.le_of_ble_eq_true rfl)
set_option maxRecDepth 100000 in
set_option maxHeartbeats 4000000 in
theorem c_X3_north (l : Launch) (hfl : l.flags = flags0) (D : sD) (B : Nat) (ad : Nat → Nat) (κ : sQ) (x : Int32) (n : Nat) (hn9 : κ 0 0 = nI n) (hn60 : n ≤ 60) (hmi : ∀ i, i < n → ∃ k, k < 1440 ∧ κ 4 i = nI k) : vx_Met l yX3_north wsX3_north ({ frames := 7, cells := 1, slots := 6, locals := 103 } : Room) (sP D B (CW D ad κ) ([.ref (ad 0), .int x] : List Value)) (vp_Si (fun rr => (0 ≤ x ∧ x ≤ (κ 0 0 - 1)) ∧ rr = (fd6 (wayS (κ 4) (κ 9) (κ 10) (κ 2) (κ 3) 90 (iN x))).toInt32)) (sX (fun E => E = E_I ∧ ¬ (0 ≤ x ∧ x ≤ (κ 0 0 - 1)))) 1 6 (fun _ => False) := by
  refine s_headX (cc := cX3_north) (maxL := 2) (ret := (some .int)) (by decide +kernel) rfl (Nat.le_of_ble_eq_true rfl) ?_
  intro p e s m below meth c hx hb hr hlk hml hown hno hts hB0 ls hl
  have hJ := hB0
  have hown : s.vm.findClass RX3 = some m.cls := hown
  have hl : lv_has ls 2 [(0, .ref (ad 0)), (1, .int x)] := hl
  refine lv_aload_n hx hb dX3_north_0 rfl (lv_at hl 0 rfl) ?_
  refine lv_iload_n hx hb dX3_north_1 rfl (lv_at hl 1 rfl) ?_
  refine s_xvV (As := [.int x]) (rest := []) ⟨hx, hb, hml, hown, hts⟩ (c_X3_checkEntry l hfl D B ad κ x ) (cwV 1 hts gX3_north_X3_checkEntry rfl rfl rfl hdV_X3_checkEntry ⟨Nat.le_of_ble_eq_true rfl, Nat.le_of_ble_eq_true rfl⟩) (sPV hJ (ci := 3) (q0 := 0) rfl rfl) rfl hl.1 rfl (Nat.le_of_ble_eq_true rfl) dX3_north_2 ⟨Nat.le_of_ble_eq_true rfl, Nat.le_of_ble_eq_true rfl⟩ hno hlk (fun E h => h) (Nat.le_of_ble_eq_true rfl) (Nat.le_of_ble_eq_true rfl) (fun c2 => ?_)
  obtain ⟨ex, hxn⟩ := ent_ok c2 hn9 hn60
  have hx60 : iN x < 60 := by omega
  refine lv_aload_n hx hb dX3_north_5 rfl (lv_at hl 0 rfl) ?_
  refine lv_iload_n hx hb dX3_north_6 rfl (lv_at hl 1 rfl) ?_
  refine lv_bipush (v := 90) hx hb dX3_north_7 (by decide +kernel) ?_
  refine s_ciV (As := [.int x, .int 90]) (rest := []) ⟨hx, hb, hml, hown, hts⟩ (c_X3_distance l D B ad κ x 90 n (iN x) (by assumption) (by assumption) (ex) (by omega) (by assumption)) (cwV 2 hts gX3_north_X3_distance rfl rfl rfl hdV_X3_distance ⟨Nat.le_of_ble_eq_true rfl, Nat.le_of_ble_eq_true rfl⟩) (sPV hJ (ci := 3) (q0 := 0) rfl rfl) rfl hl.1 rfl (Nat.le_of_ble_eq_true rfl) dX3_north_9 ⟨Nat.le_of_ble_eq_true rfl, Nat.le_of_ble_eq_true rfl⟩ ?_
  exact s_xiret hx hb hr hlk dX3_north_12 (c2) (rfl) (Nat.le_of_ble_eq_true rfl) (Nat.le_of_ble_eq_true rfl)
set_option maxRecDepth 100000 in
set_option maxHeartbeats 4000000 in
theorem c_X3_meanOpenAngle (l : Launch) (D : sD) (B : Nat) (ad : Nat → Nat) (κ : sQ) (x : Int32) (n : Nat) (hn9 : κ 0 0 = nI n) (hn60 : n ≤ 60) : Met l yX3_meanOpenAngle wsX3_meanOpenAngle ({ frames := 3, cells := 0, slots := 0, locals := 53 } : Room) (sP D B (CW D ad κ) ([.ref (ad 0), .int x] : List Value)) (vp_Si (fun rr => rr = meanF (κ 12) x n)) 0 0 (fun _ => False) := by
  refine s_head (cc := cX3_meanOpenAngle) (maxL := 5) (ret := (some .int)) (by decide +kernel) rfl (Nat.le_of_ble_eq_true rfl) ?_
  intro p e s m below meth c hx hb hr hlk hml hown hnm hts hB0 ls hl
  have hJ := hB0
  have hown : s.vm.findClass RX3 = some m.cls := hown
  have hl : lv_has ls 5 [(0, .ref (ad 0)), (1, .int x)] := hl
  have k53 : (Cond.fieldLink RX3 53 "SailLog" "count" "I").before ([.ref (ad 0), .int x] : List Value).toArray s = true := hts _ (by decide +kernel)
  have i3 : ∀ w ∈ wsX30, w ∈ wsX3_meanOpenAngle := by decide +kernel
  have k18 : (Cond.fieldLink RX3 18 "SailLog" "logged" "[LSailLog$Entry;").before ([.ref (ad 0), .int x] : List Value).toArray s = true := hts _ (by decide +kernel)
  refine lv_iconst (v := 0) hx hb dX3_meanOpenAngle_0 (by decide +kernel) ?_
  refine lv_istore_n (lv' := [(2, .int 0), (0, .ref (ad 0)), (1, .int x)]) hx hb dX3_meanOpenAngle_1 rfl hl (by decide) rfl (fun ls hl => ?_)
  refine lv_iconst (v := 0) hx hb dX3_meanOpenAngle_2 (by decide +kernel) ?_
  refine lv_istore_n (lv' := [(3, .int 0), (2, .int 0), (0, .ref (ad 0)), (1, .int x)]) hx hb dX3_meanOpenAngle_3 rfl hl (by decide) rfl (fun ls hl => ?_)
  refine lv_iconst (v := 0) hx hb dX3_meanOpenAngle_4 (by decide +kernel) ?_
  refine lv_istore (lv' := [(4, .int 0), (3, .int 0), (2, .int 0), (0, .ref (ad 0)), (1, .int x)]) hx hb dX3_meanOpenAngle_5 hl (by decide) rfl (fun ls hl => ?_)
  have loop7 : ∀ (fuel : Nat) (j : Nat) (sm : Int32) (ct : Nat) (hj : j ≤ n) (hs : smO (κ 12) x j = sm) (hc : ctO (κ 12) x j = ct) (hfu : n + 1 ≤ j + fuel) (ls : Array Slot), lv_has ls 5 [(0, .ref (ad 0)), (1, .int x), (2, .int sm), (3, .int (nI ct)), (4, .int (nI j))] → W p l e ({ frames := 3, cells := 0, slots := 0, locals := 53 } : Room) s m ([.ref (ad 0), .int x] : List Value).toArray below meth c s.heap [] 0 0 (MQ below (vp_Si (fun rr => rr = meanF (κ 12) x n)) ([.ref (ad 0), .int x] : List Value).toArray s 0 0 (fun _ => False)) (F0 m 7 ls []) := by
    intro fuel
    induction fuel with
    | zero => intro j sm ct hj hs hc hfu ls hl; exact absurd (hfu) (by omega)
    | succ fuel ih7 =>
      intro j sm ct hj hs hc hfu ls hl
      refine lv_iload hx hb dX3_meanOpenAngle_7 (lv_at hl 4 rfl) ?_
      refine lv_aload_n hx hb dX3_meanOpenAngle_9 rfl (lv_at hl 0 rfl) ?_
      refine g3_5 hx hb hts i3 hown hJ k53 dX3_meanOpenAngle_10 ?_
      refine lv_icmp_ge (tgt := 52) hx hb dX3_meanOpenAngle_13 (by decide) (fun c13 => ?_) (fun c13 => ?_)
      ·
        rw [hn9] at c13
        have hjn : j = n := by have := (nI_leI (a := n) (b := j) (by omega) (by omega)).mp c13; omega
        subst hjn
        have hct := ct_le (κ 12) x j
        refine lv_iload_n hx hb dX3_meanOpenAngle_52 rfl (lv_at hl 3 rfl) ?_
        refine lv_if_ne (tgt := 60) hx hb dX3_meanOpenAngle_53 (by decide) (fun c53 => ?_) (fun c53 => ?_)
        ·
          refine lv_iload_n hx hb dX3_meanOpenAngle_60 rfl (lv_at hl 2 rfl) ?_
          refine lv_iload_n hx hb dX3_meanOpenAngle_61 rfl (lv_at hl 3 rfl) ?_
          refine lv_idiv hx hb dX3_meanOpenAngle_62 (c53) ?_
          exact s_iret hx hb hr hlk dX3_meanOpenAngle_63 (by rw [meanF, if_neg (by rw [hc]; exact fun q => c53 ((nI_z (by omega)).mpr q)), hs, hc])
        ·
          refine lv_iconst (v := (-1)) hx hb dX3_meanOpenAngle_56 (by decide +kernel) ?_
          refine lv_goto (tgt := 63) hx hb dX3_meanOpenAngle_57 (by decide) ?_
          exact s_iret hx hb hr hlk dX3_meanOpenAngle_63 (by rw [meanF, if_pos (by rw [hc]; exact (nI_z (by omega)).mp c53)])
      ·
        rw [hn9] at c13
        have hj2 : j < n := by have := mt (nI_leI (a := n) (b := j) (by omega) (by omega)).mpr c13; omega
        have hi60 : j < 60 := by omega
        refine lv_aload_n hx hb dX3_meanOpenAngle_16 rfl (lv_at hl 0 rfl) ?_
        refine g3_1 hx hb hts i3 hown hJ k18 dX3_meanOpenAngle_17 ?_
        refine lv_iload hx hb dX3_meanOpenAngle_20 (lv_at hl 4 rfl) ?_
        refine a_log (k := j) hx hb hJ (rfl) (by omega) dX3_meanOpenAngle_22 ?_
        refine s_ciV (As := []) (rest := []) ⟨hx, hb, hml, hown, hts⟩ (c_X2_windSide l D B ad κ j (by assumption)) (cwV 0 hts gX3_meanOpenAngle_X2_windSide rfl rfl rfl hdV_X2_windSide ⟨Nat.le_of_ble_eq_true rfl, Nat.le_of_ble_eq_true rfl⟩) (sPV hJ (ci := 2) rfl (CW_e D ad κ (by omega))) rfl hl.1 rfl (Nat.le_of_ble_eq_true rfl) dX3_meanOpenAngle_23 ⟨Nat.le_of_ble_eq_true rfl, Nat.le_of_ble_eq_true rfl⟩ ?_
        refine lv_iload_n hx hb dX3_meanOpenAngle_26 rfl (lv_at hl 1 rfl) ?_
        refine lv_icmp_ne (tgt := 46) hx hb dX3_meanOpenAngle_27 (by decide) (fun c27 => ?_) (fun c27 => ?_)
        ·
          refine lv_iinc (v := nI (j + 1)) (lv' := [(4, .int (nI (j + 1))), (0, .ref (ad 0)), (1, .int x), (2, .int sm), (3, .int (nI ct))]) hx hb dX3_meanOpenAngle_46 hl (k := 4) rfl (nI_1 j) (by decide) rfl (fun ls hl => ?_)
          refine lv_goto (tgt := 7) hx hb dX3_meanOpenAngle_49 (by decide) ?_
          exact ih7 (j + 1) sm ct (by omega) (sm_n hs c27) (ct_n hc c27) (by omega) _ (lv_sub hl [1, 2, 3, 4, 0] rfl)
        ·
          refine lv_iload_n hx hb dX3_meanOpenAngle_30 rfl (lv_at hl 2 rfl) ?_
          refine lv_aload_n hx hb dX3_meanOpenAngle_31 rfl (lv_at hl 0 rfl) ?_
          refine g3_1 hx hb hts i3 hown hJ k18 dX3_meanOpenAngle_32 ?_
          refine lv_iload hx hb dX3_meanOpenAngle_35 (lv_at hl 4 rfl) ?_
          refine a_log (k := j) hx hb hJ (rfl) (by omega) dX3_meanOpenAngle_37 ?_
          refine s_ciV (As := []) (rest := [.int sm]) ⟨hx, hb, hml, hown, hts⟩ (c_X2_openAngle l D B ad κ j (by assumption)) (cwV 0 hts gX3_meanOpenAngle_X2_openAngle rfl rfl rfl hdV_X2_openAngle ⟨Nat.le_of_ble_eq_true rfl, Nat.le_of_ble_eq_true rfl⟩) (sPV hJ (ci := 2) rfl (CW_e D ad κ (by omega))) rfl hl.1 rfl (Nat.le_of_ble_eq_true rfl) dX3_meanOpenAngle_38 ⟨Nat.le_of_ble_eq_true rfl, Nat.le_of_ble_eq_true rfl⟩ ?_
          refine lv_iadd hx hb dX3_meanOpenAngle_41 ?_
          refine lv_istore_n (lv' := [(2, .int (sm + (opn (κ 12 j)))), (0, .ref (ad 0)), (1, .int x), (3, .int (nI ct)), (4, .int (nI j))]) hx hb dX3_meanOpenAngle_42 rfl hl (by decide) rfl (fun ls hl => ?_)
          refine lv_iinc (v := nI (ct + 1)) (lv' := [(3, .int (nI (ct + 1))), (2, .int (sm + (opn (κ 12 j)))), (0, .ref (ad 0)), (1, .int x), (4, .int (nI j))]) hx hb dX3_meanOpenAngle_43 hl (k := 3) rfl (nI_1 ct) (by decide) rfl (fun ls hl => ?_)
          refine lv_iinc (v := nI (j + 1)) (lv' := [(4, .int (nI (j + 1))), (3, .int (nI (ct + 1))), (2, .int (sm + (opn (κ 12 j)))), (0, .ref (ad 0)), (1, .int x)]) hx hb dX3_meanOpenAngle_46 hl (k := 4) rfl (nI_1 j) (by decide) rfl (fun ls hl => ?_)
          refine lv_goto (tgt := 7) hx hb dX3_meanOpenAngle_49 (by decide) ?_
          exact ih7 (j + 1) _ (ct + 1) (by omega) (sm_y hs c27) (ct_y hc c27) (by omega) _ (lv_sub hl [3, 4, 2, 1, 0] rfl)
  exact loop7 (n + 1) 0 0 0 (by omega) rfl rfl (by omega) _ (lv_sub hl [3, 4, 2, 1, 0] rfl)
set_option maxRecDepth 100000 in
set_option maxHeartbeats 4000000 in
theorem c_X3_vaneShown (l : Launch) (D : sD) (B : Nat) (ad : Nat → Nat) (κ : sQ) (n : Nat) (hn9 : κ 0 0 = nI n) (hn60 : n ≤ 60) : Met l yX3_vaneShown wsX3_vaneShown ({ frames := 4, cells := 0, slots := 0, locals := 77 } : Room) (sP D B (CW D ad κ) ([.ref (ad 0)] : List Value)) (vp_Si (fun rr => rr = vnF (κ 12) n)) 0 0 (fun _ => False) := by
  refine s_head (cc := cX3_vaneShown) (maxL := 3) (ret := (some .int)) (by decide +kernel) rfl (Nat.le_of_ble_eq_true rfl) ?_
  intro p e s m below meth c hx hb hr hlk hml hown hnm hts hB0 ls hl
  have hJ := hB0
  have hown : s.vm.findClass RX3 = some m.cls := hown
  have hl : lv_has ls 3 [(0, .ref (ad 0))] := hl
  refine lv_aload_n hx hb dX3_vaneShown_0 rfl (lv_at hl 0 rfl) ?_
  refine lv_iconst (v := 2) hx hb dX3_vaneShown_1 (by decide +kernel) ?_
  refine s_ciV (As := [.int 2]) (rest := []) ⟨hx, hb, hml, hown, hts⟩ (c_X3_meanOpenAngle l D B ad κ 2 n (by assumption) (by assumption)) (cwV 1 hts gX3_vaneShown_X3_meanOpenAngle rfl rfl rfl hdV_X3_meanOpenAngle ⟨Nat.le_of_ble_eq_true rfl, Nat.le_of_ble_eq_true rfl⟩) (sPV hJ (ci := 3) (q0 := 0) rfl rfl) rfl hl.1 rfl (Nat.le_of_ble_eq_true rfl) dX3_vaneShown_2 ⟨Nat.le_of_ble_eq_true rfl, Nat.le_of_ble_eq_true rfl⟩ ?_
  refine lv_istore_n (lv' := [(1, .int (meanF (κ 12) 2 n)), (0, .ref (ad 0))]) hx hb dX3_vaneShown_5 rfl hl (by decide) rfl (fun ls hl => ?_)
  refine lv_aload_n hx hb dX3_vaneShown_6 rfl (lv_at hl 1 rfl) ?_
  refine lv_iconst (v := 1) hx hb dX3_vaneShown_7 (by decide +kernel) ?_
  refine s_ciV (As := [.int 1]) (rest := []) ⟨hx, hb, hml, hown, hts⟩ (c_X3_meanOpenAngle l D B ad κ 1 n (by assumption) (by assumption)) (cwV 1 hts gX3_vaneShown_X3_meanOpenAngle rfl rfl rfl hdV_X3_meanOpenAngle ⟨Nat.le_of_ble_eq_true rfl, Nat.le_of_ble_eq_true rfl⟩) (sPV hJ (ci := 3) (q0 := 0) rfl rfl) rfl hl.1 rfl (Nat.le_of_ble_eq_true rfl) dX3_vaneShown_8 ⟨Nat.le_of_ble_eq_true rfl, Nat.le_of_ble_eq_true rfl⟩ ?_
  refine lv_istore_n (lv' := [(2, .int (meanF (κ 12) 1 n)), (1, .int (meanF (κ 12) 2 n)), (0, .ref (ad 0))]) hx hb dX3_vaneShown_11 rfl hl (by decide) rfl (fun ls hl => ?_)
  refine lv_iload_n hx hb dX3_vaneShown_12 rfl (lv_at hl 1 rfl) ?_
  refine lv_iconst (v := (-1)) hx hb dX3_vaneShown_13 (by decide +kernel) ?_
  refine lv_icmp_eq (tgt := 22) hx hb dX3_vaneShown_14 (by decide) (fun c14 => ?_) (fun c14 => ?_)
  ·
    refine lv_sipush (v := (-1000)) hx hb dX3_vaneShown_22 (by decide +kernel) ?_
    exact s_iret hx hb hr hlk dX3_vaneShown_25 (by rw [vnF, if_pos (Or.inl c14)])
  ·
    refine lv_iload_n hx hb dX3_vaneShown_17 rfl (lv_at hl 0 rfl) ?_
    refine lv_iconst (v := (-1)) hx hb dX3_vaneShown_18 (by decide +kernel) ?_
    refine lv_icmp_ne (tgt := 26) hx hb dX3_vaneShown_19 (by decide) (fun c19 => ?_) (fun c19 => ?_)
    ·
      refine lv_iload_n hx hb dX3_vaneShown_26 rfl (lv_at hl 1 rfl) ?_
      refine lv_iload_n hx hb dX3_vaneShown_27 rfl (lv_at hl 0 rfl) ?_
      refine lv_isub hx hb dX3_vaneShown_28 ?_
      refine lv_iconst (v := 2) hx hb dX3_vaneShown_29 (by decide +kernel) ?_
      refine s_ciS (As := [.int ((meanF (κ 12) 2 n) - (meanF (κ 12) 1 n)), .int 2]) (rest := []) ⟨hx, hb, hml, hown, hts⟩ (c_J9_floorDiv_7cf53 l ((meanF (κ 12) 2 n) - (meanF (κ 12) 1 n)) ) (va_cwS 2 hts gX3_vaneShown_J9_floorDiv_7cf53 rfl rfl rfl hdS_J9_floorDiv_7cf53 ⟨Nat.le_of_ble_eq_true rfl, Nat.le_of_ble_eq_true rfl⟩) sPS0 rfl hl.1 rfl (Nat.le_of_ble_eq_true rfl) dX3_vaneShown_30 ⟨Nat.le_of_ble_eq_true rfl, Nat.le_of_ble_eq_true rfl⟩ ?_
      exact s_iret hx hb hr hlk dX3_vaneShown_33 (by rw [vnF, if_neg (fun q => q.elim c14 c19)])
    ·
      refine lv_sipush (v := (-1000)) hx hb dX3_vaneShown_22 (by decide +kernel) ?_
      exact s_iret hx hb hr hlk dX3_vaneShown_25 (by rw [vnF, if_pos (Or.inr c19)])
