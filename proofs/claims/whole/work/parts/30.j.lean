set_option maxRecDepth 100000 in
set_option maxHeartbeats 4000000 in
theorem c_X4_best (l : Launch) (D : sD) (B : Nat) (ad : Nat → Nat) (rf : Int32) (κ : sQ) (sz : Nat) (x : Int32) (y : Int32) (n : Nat) (hn9 : κ 0 0 = nI n) (hn60 : n ≤ 60) (hok : ∀ i, i < n → tOk κ i) : Met l yX4_best wsX4_best ({ frames := 6, cells := 0, slots := 0, locals := 143 } : Room) (sPz D B (MW D ad rf κ) sz ([.ref (ad 0), .int x, .int y] : List Value)) (va_Qi (S := Unit) (fun rr _ => rr = if (0 ≤ x ∧ x ≤ 18) ∧ (0 ≤ y ∧ y ≤ 9) then fmx (tSp κ) (tWs κ) (tWa κ) x y n else 0) (fun _ t => va_P D.1 vwCl (MW D ad (rE ((0 ≤ x ∧ x ≤ 18) ∧ (0 ≤ y ∧ y ≤ 9))) κ) t.heap) (rA 8 ad sz)) 0 0 (rA 8 ad sz) := by
  refine s_head (cc := cX4_best) (maxL := 3) (ret := (some .int)) (by decide +kernel) rfl (Nat.le_of_ble_eq_true rfl) ?_
  intro p e s m below meth c hx hb hr hlk hml hown hnm hts hB0 ls hl
  obtain ⟨hsz, hJ⟩ := hB0
  have hown : s.vm.findClass RX4 = some m.cls := hown
  have hl : lv_has ls 3 [(0, .ref (ad 0)), (1, .int x), (2, .int y)] := hl
  subst hsz
  have hS := sS.start hJ (MW_adr D ad rf κ)
  refine lv_aload_n hx hb dX4_best_0 rfl (lv_at hl 0 rfl) ?_
  have j23 : ∀ (v9 : Int32) (hv9 : v9 = rE ((0 ≤ x ∧ x ≤ 18) ∧ (0 ≤ y ∧ y ≤ 9))) (ls : Array Slot), lv_has ls 3 [(0, .ref (ad 0)), (1, .int x), (2, .int y)] → W p l e ({ frames := 6, cells := 0, slots := 0, locals := 143 } : Room) s m ([.ref (ad 0), .int x, .int y] : List Value).toArray below meth c s.heap [] 0 0 (MQ below (va_Qi (S := Unit) (fun rr _ => rr = if (0 ≤ x ∧ x ≤ 18) ∧ (0 ≤ y ∧ y ≤ 9) then fmx (tSp κ) (tWs κ) (tWa κ) x y n else 0) (fun _ t => va_P D.1 vwCl (MW D ad (rE ((0 ≤ x ∧ x ≤ 18) ∧ (0 ≤ y ∧ y ≤ 9))) κ) t.heap) (rA 8 ad s.heap.size)) ([.ref (ad 0), .int x, .int y] : List Value).toArray s 0 0 (rA 8 ad s.heap.size)) (F0 m 23 ls [.int v9, .ref (ad 0)]) := by
    intro v9 hv9 ls hl
    subst hv9
    refine s_miV (wd' := (MW D ad (rE ((0 ≤ x ∧ x ≤ 18) ∧ (0 ≤ y ∧ y ≤ 9))) κ)) (As := [.int (rE ((0 ≤ x ∧ x ≤ 18) ∧ (0 ≤ y ∧ y ≤ 9)))]) (rest := []) ⟨hx, hb, hml, hown, hts⟩ (c_X4_refused l D B ad rf κ s.heap.size (rE ((0 ≤ x ∧ x ≤ 18) ∧ (0 ≤ y ∧ y ≤ 9))) ) (cwV 1 hts gX4_best_X4_refused rfl rfl rfl hdV_X4_refused ⟨Nat.le_of_ble_eq_true rfl, Nat.le_of_ble_eq_true rfl⟩) (sPVz hS.1 (ci := 4) (q0 := 0) rfl rfl) hS (MW_adr _ _ _ _) (MW_adr _ _ _ _) rfl hl.1 rfl (Nat.le_of_ble_eq_true rfl) dX4_best_23 ⟨Nat.le_of_ble_eq_true rfl, Nat.le_of_ble_eq_true rfl⟩ (fun H locs hS => ?_)
    refine lv_if_eq (tgt := 33) hx hb dX4_best_26 (by decide) (fun c26 => ?_) (fun c26 => ?_)
    ·
      replace c26 := bI_0.mp c26
      have c26 := rE_0.mp (Decidable.not_not.mp c26)
      refine lv_aload_n hx hb dX4_best_33 rfl (lv_at hl 0 rfl) ?_
      refine lv_iload_n hx hb dX4_best_34 rfl (lv_at hl 1 rfl) ?_
      refine lv_iload_n hx hb dX4_best_35 rfl (lv_at hl 2 rfl) ?_
      refine s_ciV (As := [.int x, .int y]) (rest := []) ⟨hx, hb, hml, hown, hts⟩ (c_X4_field l D B ad (rE ((0 ≤ x ∧ x ≤ 18) ∧ (0 ≤ y ∧ y ≤ 9))) κ x y n (by assumption) (by assumption) (by assumption)) (cwV 2 hts gX4_best_X4_field rfl rfl rfl hdV_X4_field ⟨Nat.le_of_ble_eq_true rfl, Nat.le_of_ble_eq_true rfl⟩) (sPV hS.1 (ci := 4) (q0 := 0) rfl rfl) rfl hl.1 rfl (Nat.le_of_ble_eq_true rfl) dX4_best_36 ⟨Nat.le_of_ble_eq_true rfl, Nat.le_of_ble_eq_true rfl⟩ ?_
      exact s_miret hx hb hr hlk dX4_best_39 ((if_pos c26).symm) hS
    ·
      replace c26 := bI_n0.mp c26
      have c26 := mt rE_0.mpr c26
      refine lv_iconst (v := 0) hx hb dX4_best_29 (by decide +kernel) ?_
      refine lv_goto (tgt := 39) hx hb dX4_best_30 (by decide) ?_
      exact s_miret hx hb hr hlk dX4_best_39 ((if_neg c26).symm) hS
  refine lv_iload_n hx hb dX4_best_1 rfl (lv_at hl 1 rfl) ?_
  refine lv_iconst (v := 0) hx hb dX4_best_2 (by decide +kernel) ?_
  refine lv_bipush (v := 18) hx hb dX4_best_3 (by decide +kernel) ?_
  refine s_ciS (As := [.int x, .int 0, .int 18]) (rest := [.ref (ad 0)]) ⟨hx, hb, hml, hown, hts⟩ (c_X4_in l x 0 18 ) (va_cwS 3 hts gX4_best_X4_in rfl rfl rfl hdS_X4_in ⟨Nat.le_of_ble_eq_true rfl, Nat.le_of_ble_eq_true rfl⟩) sPS0 rfl hl.1 rfl (Nat.le_of_ble_eq_true rfl) dX4_best_5 ⟨Nat.le_of_ble_eq_true rfl, Nat.le_of_ble_eq_true rfl⟩ ?_
  refine lv_if_eq (tgt := 22) hx hb dX4_best_8 (by decide) (fun c8 => ?_) (fun c8 => ?_)
  ·
    replace c8 := bI_0.mp c8
    refine lv_iconst (v := 1) hx hb dX4_best_22 (by decide +kernel) ?_
    exact j23 1 (rE_b (fun q => c8 q.1)) _ (lv_sub hl [0, 1, 2] rfl)
  ·
    replace c8 := bI_n0.mp c8
    refine lv_iload_n hx hb dX4_best_11 rfl (lv_at hl 2 rfl) ?_
    refine s_ciS (As := [.int y]) (rest := [.ref (ad 0)]) ⟨hx, hb, hml, hown, hts⟩ (c_X4_isColumn l y ) (va_cwS 1 hts gX4_best_X4_isColumn rfl rfl rfl hdS_X4_isColumn ⟨Nat.le_of_ble_eq_true rfl, Nat.le_of_ble_eq_true rfl⟩) sPS0 rfl hl.1 rfl (Nat.le_of_ble_eq_true rfl) dX4_best_12 ⟨Nat.le_of_ble_eq_true rfl, Nat.le_of_ble_eq_true rfl⟩ ?_
    refine lv_if_eq (tgt := 22) hx hb dX4_best_15 (by decide) (fun c15 => ?_) (fun c15 => ?_)
    ·
      replace c15 := bI_0.mp c15
      refine lv_iconst (v := 1) hx hb dX4_best_22 (by decide +kernel) ?_
      exact j23 1 (rE_b (fun q => c15 q.2)) _ (lv_sub hl [0, 1, 2] rfl)
    ·
      replace c15 := bI_n0.mp c15
      refine lv_iconst (v := 0) hx hb dX4_best_18 (by decide +kernel) ?_
      refine lv_goto (tgt := 23) hx hb dX4_best_19 (by decide) ?_
      exact j23 0 (rE_a ⟨c8, c15⟩) _ (lv_sub hl [0, 1, 2] rfl)
set_option maxRecDepth 100000 in
set_option maxHeartbeats 4000000 in
theorem c_X4_bestByLog (l : Launch) (D : sD) (B : Nat) (ad : Nat → Nat) (rf : Int32) (κ : sQ) (sz : Nat) (x : Int32) (y : Int32) (n : Nat) (hn9 : κ 0 0 = nI n) (hn60 : n ≤ 60) (hok : ∀ i, i < n → tOk κ i) : Met l yX4_bestByLog wsX4_bestByLog ({ frames := 7, cells := 0, slots := 0, locals := 165 } : Room) (sPz D B (MW D ad rf κ) sz ([.ref (ad 0), .int x, .int y] : List Value)) (va_Qi (S := Unit) (fun rr _ => rr = if (0 ≤ x ∧ x ≤ 18) ∧ (0 ≤ y ∧ y ≤ 9) then fmx (tSp κ) (tWs κ) (tWa κ) x y n else 0) (fun _ t => va_P D.1 vwCl (MW D ad (rE ((0 ≤ x ∧ x ≤ 18) ∧ (0 ≤ y ∧ y ≤ 9))) κ) t.heap) (rA 8 ad sz)) 0 0 (rA 8 ad sz) := by
  refine s_head (cc := cX4_bestByLog) (maxL := 3) (ret := (some .int)) (by decide +kernel) rfl (Nat.le_of_ble_eq_true rfl) ?_
  intro p e s m below meth c hx hb hr hlk hml hown hnm hts hB0 ls hl
  obtain ⟨hsz, hJ⟩ := hB0
  have hown : s.vm.findClass RX4 = some m.cls := hown
  have hl : lv_has ls 3 [(0, .ref (ad 0)), (1, .int x), (2, .int y)] := hl
  subst hsz
  have hS := sS.start hJ (MW_adr D ad rf κ)
  refine lv_aload_n hx hb dX4_bestByLog_0 rfl (lv_at hl 0 rfl) ?_
  refine lv_iload_n hx hb dX4_bestByLog_1 rfl (lv_at hl 1 rfl) ?_
  refine lv_iload_n hx hb dX4_bestByLog_2 rfl (lv_at hl 2 rfl) ?_
  refine s_miV (wd' := (MW D ad (rE ((0 ≤ x ∧ x ≤ 18) ∧ (0 ≤ y ∧ y ≤ 9))) κ)) (As := [.int x, .int y]) (rest := []) ⟨hx, hb, hml, hown, hts⟩ (c_X4_best l D B ad rf κ s.heap.size x y n (by assumption) (by assumption) (by assumption)) (cwV 2 hts gX4_bestByLog_X4_best rfl rfl rfl hdV_X4_best ⟨Nat.le_of_ble_eq_true rfl, Nat.le_of_ble_eq_true rfl⟩) (sPVz hS.1 (ci := 4) (q0 := 0) rfl rfl) hS (MW_adr _ _ _ _) (MW_adr _ _ _ _) rfl hl.1 rfl (Nat.le_of_ble_eq_true rfl) dX4_bestByLog_3 ⟨Nat.le_of_ble_eq_true rfl, Nat.le_of_ble_eq_true rfl⟩ (fun H locs hS => ?_)
  exact s_miret hx hb hr hlk dX4_bestByLog_6 (rfl) hS
set_option maxRecDepth 100000 in
set_option maxHeartbeats 4000000 in
theorem c_X4_bestUp (l : Launch) (D : sD) (B : Nat) (ad : Nat → Nat) (rf : Int32) (κ : sQ) (sz : Nat) (x : Int32) (n : Nat) (hn9 : κ 0 0 = nI n) (hn60 : n ≤ 60) (hok : ∀ i, i < n → tOk κ i) : Met l yX4_bestUp wsX4_bestUp ({ frames := 6, cells := 0, slots := 0, locals := 143 } : Room) (sPz D B (MW D ad rf κ) sz ([.ref (ad 0), .int x] : List Value)) (va_Qi (S := Unit) (fun rr _ => rr = if 0 ≤ x ∧ x ≤ 9 then (upB (fun r => fmx (tSp κ) (tWs κ) (tWa κ) (nI r) x n * cs (midI (nI r))) 0 9).1 else 0) (fun _ t => va_P D.1 vwCl (MW D ad (rE (0 ≤ x ∧ x ≤ 9)) κ) t.heap) (rA 8 ad sz)) 0 0 (rA 8 ad sz) := by
  refine s_head (cc := cX4_bestUp) (maxL := 6) (ret := (some .int)) (by decide +kernel) rfl (Nat.le_of_ble_eq_true rfl) ?_
  intro p e s m below meth c hx hb hr hlk hml hown hnm hts hB0 ls hl
  obtain ⟨hsz, hJ⟩ := hB0
  have hown : s.vm.findClass RX4 = some m.cls := hown
  have hl : lv_has ls 6 [(0, .ref (ad 0)), (1, .int x)] := hl
  subst hsz
  have hS := sS.start hJ (MW_adr D ad rf κ)
  refine lv_aload_n hx hb dX4_bestUp_0 rfl (lv_at hl 0 rfl) ?_
  have j13 : ∀ (v9 : Int32) (hv9 : v9 = rE (0 ≤ x ∧ x ≤ 9)) (ls : Array Slot), lv_has ls 6 [(0, .ref (ad 0)), (1, .int x)] → W p l e ({ frames := 6, cells := 0, slots := 0, locals := 143 } : Room) s m ([.ref (ad 0), .int x] : List Value).toArray below meth c s.heap [] 0 0 (MQ below (va_Qi (S := Unit) (fun rr _ => rr = if 0 ≤ x ∧ x ≤ 9 then (upB (fun r => fmx (tSp κ) (tWs κ) (tWa κ) (nI r) x n * cs (midI (nI r))) 0 9).1 else 0) (fun _ t => va_P D.1 vwCl (MW D ad (rE (0 ≤ x ∧ x ≤ 9)) κ) t.heap) (rA 8 ad s.heap.size)) ([.ref (ad 0), .int x] : List Value).toArray s 0 0 (rA 8 ad s.heap.size)) (F0 m 13 ls [.int v9, .ref (ad 0)]) := by
    intro v9 hv9 ls hl
    subst hv9
    refine s_miV (wd' := (MW D ad (rE (0 ≤ x ∧ x ≤ 9)) κ)) (As := [.int (rE (0 ≤ x ∧ x ≤ 9))]) (rest := []) ⟨hx, hb, hml, hown, hts⟩ (c_X4_refused l D B ad rf κ s.heap.size (rE (0 ≤ x ∧ x ≤ 9)) ) (cwV 1 hts gX4_bestUp_X4_refused rfl rfl rfl hdV_X4_refused ⟨Nat.le_of_ble_eq_true rfl, Nat.le_of_ble_eq_true rfl⟩) (sPVz hS.1 (ci := 4) (q0 := 0) rfl rfl) hS (MW_adr _ _ _ _) (MW_adr _ _ _ _) rfl hl.1 rfl (Nat.le_of_ble_eq_true rfl) dX4_bestUp_13 ⟨Nat.le_of_ble_eq_true rfl, Nat.le_of_ble_eq_true rfl⟩ (fun H locs hS => ?_)
    refine lv_if_eq (tgt := 21) hx hb dX4_bestUp_16 (by decide) (fun c16 => ?_) (fun c16 => ?_)
    ·
      replace c16 := bI_0.mp c16
      have c16 := rE_0.mp (Decidable.not_not.mp c16)
      refine lv_iconst (v := (-1)) hx hb dX4_bestUp_21 (by decide +kernel) ?_
      refine lv_istore_n (lv' := [(2, .int (-1)), (0, .ref (ad 0)), (1, .int x)]) hx hb dX4_bestUp_22 rfl hl (by decide) rfl (fun ls hl => ?_)
      refine lv_iconst (v := 0) hx hb dX4_bestUp_23 (by decide +kernel) ?_
      refine lv_istore_n (lv' := [(3, .int 0), (2, .int (-1)), (0, .ref (ad 0)), (1, .int x)]) hx hb dX4_bestUp_24 rfl hl (by decide) rfl (fun ls hl => ?_)
      refine lv_iconst (v := 0) hx hb dX4_bestUp_25 (by decide +kernel) ?_
      refine lv_istore (lv' := [(4, .int 0), (3, .int 0), (2, .int (-1)), (0, .ref (ad 0)), (1, .int x)]) hx hb dX4_bestUp_26 hl (by decide) rfl (fun ls hl => ?_)
      have loop28 : ∀ (fuel : Nat) (j : Nat) (bst : Int32) (gr : Int32) (hj : j ≤ 9) (hg : upB (fun r => fmx (tSp κ) (tWs κ) (tWa κ) (nI r) x n * cs (midI (nI r))) 0 j = (bst, gr)) (hfu : 10 ≤ j + fuel) (ls : Array Slot), lv_has ls 6 [(0, .ref (ad 0)), (1, .int x), (2, .int bst), (3, .int gr), (4, .int (nI j))] → W p l e ({ frames := 6, cells := 0, slots := 0, locals := 143 } : Room) s m ([.ref (ad 0), .int x] : List Value).toArray below meth c H locs 0 0 (MQ below (va_Qi (S := Unit) (fun rr _ => rr = if 0 ≤ x ∧ x ≤ 9 then (upB (fun r => fmx (tSp κ) (tWs κ) (tWa κ) (nI r) x n * cs (midI (nI r))) 0 9).1 else 0) (fun _ t => va_P D.1 vwCl (MW D ad (rE (0 ≤ x ∧ x ≤ 9)) κ) t.heap) (rA 8 ad s.heap.size)) ([.ref (ad 0), .int x] : List Value).toArray s 0 0 (rA 8 ad s.heap.size)) (F0 m 28 ls []) := by
        intro fuel
        induction fuel with
        | zero => intro j bst gr hj hg hfu ls hl; exact absurd (hfu) (by omega)
        | succ fuel ih28 =>
          intro j bst gr hj hg hfu ls hl
          refine lv_iload hx hb dX4_bestUp_28 (lv_at hl 4 rfl) ?_
          refine lv_bipush (v := 9) hx hb dX4_bestUp_30 (by decide +kernel) ?_
          refine lv_icmp_ge (tgt := 85) hx hb dX4_bestUp_32 (by decide) (fun c32 => ?_) (fun c32 => ?_)
          ·
            refine lv_iload_n hx hb dX4_bestUp_85 rfl (lv_at hl 2 rfl) ?_
            exact s_miret hx hb hr hlk dX4_bestUp_86 (by rw [if_pos c16, show 9 = j from by have := (nI_leI (a := 9) (b := j) (by omega) (by omega)).mp c32; omega, hg]) hS
          ·
            have hj2 : j < 9 := by have := mt (nI_leI (a := 9) (b := j) (by omega) (by omega)).mpr c32; omega
            refine lv_aload_n hx hb dX4_bestUp_35 rfl (lv_at hl 0 rfl) ?_
            refine lv_iload hx hb dX4_bestUp_36 (lv_at hl 4 rfl) ?_
            refine lv_iload_n hx hb dX4_bestUp_38 rfl (lv_at hl 1 rfl) ?_
            refine s_ciV (As := [.int (nI j), .int x]) (rest := []) ⟨hx, hb, hml, hown, hts⟩ (c_X4_field l D B ad (rE (0 ≤ x ∧ x ≤ 9)) κ (nI j) x n (by assumption) (by assumption) (by assumption)) (cwV 2 hts gX4_bestUp_X4_field rfl rfl rfl hdV_X4_field ⟨Nat.le_of_ble_eq_true rfl, Nat.le_of_ble_eq_true rfl⟩) (sPV hS.1 (ci := 4) (q0 := 0) rfl rfl) rfl hl.1 rfl (Nat.le_of_ble_eq_true rfl) dX4_bestUp_39 ⟨Nat.le_of_ble_eq_true rfl, Nat.le_of_ble_eq_true rfl⟩ ?_
            refine lv_iload hx hb dX4_bestUp_42 (lv_at hl 4 rfl) ?_
            refine s_ciS (As := [.int (nI j)]) (rest := [.int (fmx (tSp κ) (tWs κ) (tWa κ) (nI j) x n)]) ⟨hx, hb, hml, hown, hts⟩ (c_X4_middle l (nI j) j (rfl) (by omega)) (va_cwS 1 hts gX4_bestUp_X4_middle rfl rfl rfl hdS_X4_middle ⟨Nat.le_of_ble_eq_true rfl, Nat.le_of_ble_eq_true rfl⟩) sPS0 rfl hl.1 rfl (Nat.le_of_ble_eq_true rfl) dX4_bestUp_44 ⟨Nat.le_of_ble_eq_true rfl, Nat.le_of_ble_eq_true rfl⟩ ?_
            refine s_ciS (As := [.int (midI (nI j))]) (rest := [.int (fmx (tSp κ) (tWs κ) (tWa κ) (nI j) x n)]) ⟨hx, hb, hml, hown, hts⟩ (c_X4_cos l (midI (nI j)) ) (va_cwS 1 hts gX4_bestUp_X4_cos rfl rfl rfl hdS_X4_cos ⟨Nat.le_of_ble_eq_true rfl, Nat.le_of_ble_eq_true rfl⟩) sPS0 rfl hl.1 rfl (Nat.le_of_ble_eq_true rfl) dX4_bestUp_47 ⟨Nat.le_of_ble_eq_true rfl, Nat.le_of_ble_eq_true rfl⟩ ?_
            refine lv_imul hx hb dX4_bestUp_50 ?_
            refine lv_topi (fun gg egg => ?_)
            refine lv_istore (lv' := [(5, .int gg), (0, .ref (ad 0)), (1, .int x), (2, .int bst), (3, .int gr), (4, .int (nI j))]) hx hb dX4_bestUp_51 hl (by decide) rfl (fun ls hl => ?_)
            refine lv_iload hx hb dX4_bestUp_53 (lv_at hl 0 rfl) ?_
            refine lv_iload_n hx hb dX4_bestUp_55 rfl (lv_at hl 4 rfl) ?_
            refine lv_icmp_le (tgt := 64) hx hb dX4_bestUp_56 (by decide) (fun c56 => ?_) (fun c56 => ?_)
            ·
              refine lv_iload_n hx hb dX4_bestUp_64 rfl (lv_at hl 3 rfl) ?_
              refine lv_istore_n (lv' := [(2, .int bst), (5, .int gg), (0, .ref (ad 0)), (1, .int x), (3, .int gr), (4, .int (nI j))]) hx hb dX4_bestUp_65 rfl hl (by decide) rfl (fun ls hl => ?_)
              refine lv_iload hx hb dX4_bestUp_66 (lv_at hl 1 rfl) ?_
              refine lv_iload_n hx hb dX4_bestUp_68 rfl (lv_at hl 4 rfl) ?_
              refine lv_icmp_le (tgt := 77) hx hb dX4_bestUp_69 (by decide) (fun c69 => ?_) (fun c69 => absurd (c56) c69)
              refine lv_iload_n hx hb dX4_bestUp_77 rfl (lv_at hl 4 rfl) ?_
              refine lv_istore_n (lv' := [(3, .int gr), (2, .int bst), (5, .int gg), (0, .ref (ad 0)), (1, .int x), (4, .int (nI j))]) hx hb dX4_bestUp_78 rfl hl (by decide) rfl (fun ls hl => ?_)
              refine lv_iinc (v := nI (j + 1)) (lv' := [(4, .int (nI (j + 1))), (3, .int gr), (2, .int bst), (5, .int gg), (0, .ref (ad 0)), (1, .int x)]) hx hb dX4_bestUp_79 hl (k := 5) rfl (nI_1 j) (by decide) rfl (fun ls hl => ?_)
              refine lv_goto (tgt := 28) hx hb dX4_bestUp_82 (by decide) ?_
              exact ih28 (j + 1) bst gr (by omega) (upB_no hg (by rw [Nat.zero_add]; exact egg) c56) (by omega) _ (lv_sub hl [4, 5, 2, 1, 0] rfl)
            ·
              refine lv_iload hx hb dX4_bestUp_59 (lv_at hl 5 rfl) ?_
              refine lv_goto (tgt := 65) hx hb dX4_bestUp_61 (by decide) ?_
              refine lv_istore_n (lv' := [(2, .int (nI j)), (5, .int gg), (0, .ref (ad 0)), (1, .int x), (3, .int gr), (4, .int (nI j))]) hx hb dX4_bestUp_65 rfl hl (by decide) rfl (fun ls hl => ?_)
              refine lv_iload hx hb dX4_bestUp_66 (lv_at hl 1 rfl) ?_
              refine lv_iload_n hx hb dX4_bestUp_68 rfl (lv_at hl 4 rfl) ?_
              refine lv_icmp_le (tgt := 77) hx hb dX4_bestUp_69 (by decide) (fun c69 => absurd c69 (c56)) (fun c69 => ?_)
              refine lv_iload hx hb dX4_bestUp_72 (lv_at hl 1 rfl) ?_
              refine lv_goto (tgt := 78) hx hb dX4_bestUp_74 (by decide) ?_
              refine lv_istore_n (lv' := [(3, .int gg), (2, .int (nI j)), (5, .int gg), (0, .ref (ad 0)), (1, .int x), (4, .int (nI j))]) hx hb dX4_bestUp_78 rfl hl (by decide) rfl (fun ls hl => ?_)
              refine lv_iinc (v := nI (j + 1)) (lv' := [(4, .int (nI (j + 1))), (3, .int gg), (2, .int (nI j)), (5, .int gg), (0, .ref (ad 0)), (1, .int x)]) hx hb dX4_bestUp_79 hl (k := 5) rfl (nI_1 j) (by decide) rfl (fun ls hl => ?_)
              refine lv_goto (tgt := 28) hx hb dX4_bestUp_82 (by decide) ?_
              exact ih28 (j + 1) (nI j) gg (by omega) (by have := upB_yes hg (by rw [Nat.zero_add]; exact egg) c56; rw [Nat.zero_add] at this; exact this) (by omega) _ (lv_sub hl [4, 5, 2, 1, 0] rfl)
      exact loop28 10 0 (-1) 0 (by omega) rfl (by omega) _ (lv_sub hl [3, 4, 2, 1, 0] rfl)
    ·
      replace c16 := bI_n0.mp c16
      have c16 := mt rE_0.mpr c16
      refine lv_iconst (v := 0) hx hb dX4_bestUp_19 (by decide +kernel) ?_
      exact s_miret hx hb hr hlk dX4_bestUp_20 ((if_neg c16).symm) hS
  refine lv_iload_n hx hb dX4_bestUp_1 rfl (lv_at hl 1 rfl) ?_
  refine s_ciS (As := [.int x]) (rest := [.ref (ad 0)]) ⟨hx, hb, hml, hown, hts⟩ (c_X4_isColumn l x ) (va_cwS 1 hts gX4_bestUp_X4_isColumn rfl rfl rfl hdS_X4_isColumn ⟨Nat.le_of_ble_eq_true rfl, Nat.le_of_ble_eq_true rfl⟩) sPS0 rfl hl.1 rfl (Nat.le_of_ble_eq_true rfl) dX4_bestUp_2 ⟨Nat.le_of_ble_eq_true rfl, Nat.le_of_ble_eq_true rfl⟩ ?_
  refine lv_if_eq (tgt := 12) hx hb dX4_bestUp_5 (by decide) (fun c5 => ?_) (fun c5 => ?_)
  ·
    replace c5 := bI_0.mp c5
    refine lv_iconst (v := 1) hx hb dX4_bestUp_12 (by decide +kernel) ?_
    exact j13 1 (rE_b c5) _ (lv_sub hl [0, 1] rfl)
  ·
    replace c5 := bI_n0.mp c5
    refine lv_iconst (v := 0) hx hb dX4_bestUp_8 (by decide +kernel) ?_
    refine lv_goto (tgt := 13) hx hb dX4_bestUp_9 (by decide) ?_
    exact j13 0 (rE_a c5) _ (lv_sub hl [0, 1] rfl)
set_option maxRecDepth 100000 in
set_option maxHeartbeats 4000000 in
theorem c_X4_bestDown (l : Launch) (D : sD) (B : Nat) (ad : Nat → Nat) (rf : Int32) (κ : sQ) (sz : Nat) (x : Int32) (n : Nat) (hn9 : κ 0 0 = nI n) (hn60 : n ≤ 60) (hok : ∀ i, i < n → tOk κ i) : Met l yX4_bestDown wsX4_bestDown ({ frames := 6, cells := 0, slots := 0, locals := 143 } : Room) (sPz D B (MW D ad rf κ) sz ([.ref (ad 0), .int x] : List Value)) (va_Qi (S := Unit) (fun rr _ => rr = if 0 ≤ x ∧ x ≤ 9 then (dnB (fun r => fmx (tSp κ) (tWs κ) (tWa κ) (nI r) x n * cs (midI (nI r))) 9 10).1 else 0) (fun _ t => va_P D.1 vwCl (MW D ad (rE (0 ≤ x ∧ x ≤ 9)) κ) t.heap) (rA 8 ad sz)) 0 0 (rA 8 ad sz) := by
  refine s_head (cc := cX4_bestDown) (maxL := 6) (ret := (some .int)) (by decide +kernel) rfl (Nat.le_of_ble_eq_true rfl) ?_
  intro p e s m below meth c hx hb hr hlk hml hown hnm hts hB0 ls hl
  obtain ⟨hsz, hJ⟩ := hB0
  have hown : s.vm.findClass RX4 = some m.cls := hown
  have hl : lv_has ls 6 [(0, .ref (ad 0)), (1, .int x)] := hl
  subst hsz
  have hS := sS.start hJ (MW_adr D ad rf κ)
  refine lv_aload_n hx hb dX4_bestDown_0 rfl (lv_at hl 0 rfl) ?_
  have j13 : ∀ (v9 : Int32) (hv9 : v9 = rE (0 ≤ x ∧ x ≤ 9)) (ls : Array Slot), lv_has ls 6 [(0, .ref (ad 0)), (1, .int x)] → W p l e ({ frames := 6, cells := 0, slots := 0, locals := 143 } : Room) s m ([.ref (ad 0), .int x] : List Value).toArray below meth c s.heap [] 0 0 (MQ below (va_Qi (S := Unit) (fun rr _ => rr = if 0 ≤ x ∧ x ≤ 9 then (dnB (fun r => fmx (tSp κ) (tWs κ) (tWa κ) (nI r) x n * cs (midI (nI r))) 9 10).1 else 0) (fun _ t => va_P D.1 vwCl (MW D ad (rE (0 ≤ x ∧ x ≤ 9)) κ) t.heap) (rA 8 ad s.heap.size)) ([.ref (ad 0), .int x] : List Value).toArray s 0 0 (rA 8 ad s.heap.size)) (F0 m 13 ls [.int v9, .ref (ad 0)]) := by
    intro v9 hv9 ls hl
    subst hv9
    refine s_miV (wd' := (MW D ad (rE (0 ≤ x ∧ x ≤ 9)) κ)) (As := [.int (rE (0 ≤ x ∧ x ≤ 9))]) (rest := []) ⟨hx, hb, hml, hown, hts⟩ (c_X4_refused l D B ad rf κ s.heap.size (rE (0 ≤ x ∧ x ≤ 9)) ) (cwV 1 hts gX4_bestDown_X4_refused rfl rfl rfl hdV_X4_refused ⟨Nat.le_of_ble_eq_true rfl, Nat.le_of_ble_eq_true rfl⟩) (sPVz hS.1 (ci := 4) (q0 := 0) rfl rfl) hS (MW_adr _ _ _ _) (MW_adr _ _ _ _) rfl hl.1 rfl (Nat.le_of_ble_eq_true rfl) dX4_bestDown_13 ⟨Nat.le_of_ble_eq_true rfl, Nat.le_of_ble_eq_true rfl⟩ (fun H locs hS => ?_)
    refine lv_if_eq (tgt := 21) hx hb dX4_bestDown_16 (by decide) (fun c16 => ?_) (fun c16 => ?_)
    ·
      replace c16 := bI_0.mp c16
      have c16 := rE_0.mp (Decidable.not_not.mp c16)
      refine lv_iconst (v := (-1)) hx hb dX4_bestDown_21 (by decide +kernel) ?_
      refine lv_istore_n (lv' := [(2, .int (-1)), (0, .ref (ad 0)), (1, .int x)]) hx hb dX4_bestDown_22 rfl hl (by decide) rfl (fun ls hl => ?_)
      refine lv_iconst (v := 0) hx hb dX4_bestDown_23 (by decide +kernel) ?_
      refine lv_istore_n (lv' := [(3, .int 0), (2, .int (-1)), (0, .ref (ad 0)), (1, .int x)]) hx hb dX4_bestDown_24 rfl hl (by decide) rfl (fun ls hl => ?_)
      refine lv_bipush (v := 9) hx hb dX4_bestDown_25 (by decide +kernel) ?_
      refine lv_istore (lv' := [(4, .int 9), (3, .int 0), (2, .int (-1)), (0, .ref (ad 0)), (1, .int x)]) hx hb dX4_bestDown_27 hl (by decide) rfl (fun ls hl => ?_)
      have loop29 : ∀ (fuel : Nat) (j : Nat) (bst : Int32) (gr : Int32) (hj : j ≤ 10) (hg : dnB (fun r => fmx (tSp κ) (tWs κ) (tWa κ) (nI r) x n * cs (midI (nI r))) 9 j = (bst, gr)) (hfu : 11 ≤ j + fuel) (ls : Array Slot), lv_has ls 6 [(0, .ref (ad 0)), (1, .int x), (2, .int bst), (3, .int gr), (4, .int (nI (9 + j)))] → W p l e ({ frames := 6, cells := 0, slots := 0, locals := 143 } : Room) s m ([.ref (ad 0), .int x] : List Value).toArray below meth c H locs 0 0 (MQ below (va_Qi (S := Unit) (fun rr _ => rr = if 0 ≤ x ∧ x ≤ 9 then (dnB (fun r => fmx (tSp κ) (tWs κ) (tWa κ) (nI r) x n * cs (midI (nI r))) 9 10).1 else 0) (fun _ t => va_P D.1 vwCl (MW D ad (rE (0 ≤ x ∧ x ≤ 9)) κ) t.heap) (rA 8 ad s.heap.size)) ([.ref (ad 0), .int x] : List Value).toArray s 0 0 (rA 8 ad s.heap.size)) (F0 m 29 ls []) := by
        intro fuel
        induction fuel with
        | zero => intro j bst gr hj hg hfu ls hl; exact absurd (hfu) (by omega)
        | succ fuel ih29 =>
          intro j bst gr hj hg hfu ls hl
          refine lv_iload hx hb dX4_bestDown_29 (lv_at hl 4 rfl) ?_
          refine lv_bipush (v := 19) hx hb dX4_bestDown_31 (by decide +kernel) ?_
          refine lv_icmp_ge (tgt := 86) hx hb dX4_bestDown_33 (by decide) (fun c33 => ?_) (fun c33 => ?_)
          ·
            refine lv_iload_n hx hb dX4_bestDown_86 rfl (lv_at hl 2 rfl) ?_
            exact s_miret hx hb hr hlk dX4_bestDown_87 (by rw [if_pos c16, show 10 = j from by have := (nI_leI (a := 19) (b := 9 + j) (by omega) (by omega)).mp c33; omega, hg]) hS
          ·
            have hj2 : 9 + j < 19 := by have := mt (nI_leI (a := 19) (b := 9 + j) (by omega) (by omega)).mpr c33; omega
            refine lv_aload_n hx hb dX4_bestDown_36 rfl (lv_at hl 0 rfl) ?_
            refine lv_iload hx hb dX4_bestDown_37 (lv_at hl 4 rfl) ?_
            refine lv_iload_n hx hb dX4_bestDown_39 rfl (lv_at hl 1 rfl) ?_
            refine s_ciV (As := [.int (nI (9 + j)), .int x]) (rest := []) ⟨hx, hb, hml, hown, hts⟩ (c_X4_field l D B ad (rE (0 ≤ x ∧ x ≤ 9)) κ (nI (9 + j)) x n (by assumption) (by assumption) (by assumption)) (cwV 2 hts gX4_bestDown_X4_field rfl rfl rfl hdV_X4_field ⟨Nat.le_of_ble_eq_true rfl, Nat.le_of_ble_eq_true rfl⟩) (sPV hS.1 (ci := 4) (q0 := 0) rfl rfl) rfl hl.1 rfl (Nat.le_of_ble_eq_true rfl) dX4_bestDown_40 ⟨Nat.le_of_ble_eq_true rfl, Nat.le_of_ble_eq_true rfl⟩ ?_
            refine lv_iload hx hb dX4_bestDown_43 (lv_at hl 4 rfl) ?_
            refine s_ciS (As := [.int (nI (9 + j))]) (rest := [.int (fmx (tSp κ) (tWs κ) (tWa κ) (nI (9 + j)) x n)]) ⟨hx, hb, hml, hown, hts⟩ (c_X4_middle l (nI (9 + j)) (9 + j) (rfl) (by omega)) (va_cwS 1 hts gX4_bestDown_X4_middle rfl rfl rfl hdS_X4_middle ⟨Nat.le_of_ble_eq_true rfl, Nat.le_of_ble_eq_true rfl⟩) sPS0 rfl hl.1 rfl (Nat.le_of_ble_eq_true rfl) dX4_bestDown_45 ⟨Nat.le_of_ble_eq_true rfl, Nat.le_of_ble_eq_true rfl⟩ ?_
            refine s_ciS (As := [.int (midI (nI (9 + j)))]) (rest := [.int (fmx (tSp κ) (tWs κ) (tWa κ) (nI (9 + j)) x n)]) ⟨hx, hb, hml, hown, hts⟩ (c_X4_cos l (midI (nI (9 + j))) ) (va_cwS 1 hts gX4_bestDown_X4_cos rfl rfl rfl hdS_X4_cos ⟨Nat.le_of_ble_eq_true rfl, Nat.le_of_ble_eq_true rfl⟩) sPS0 rfl hl.1 rfl (Nat.le_of_ble_eq_true rfl) dX4_bestDown_48 ⟨Nat.le_of_ble_eq_true rfl, Nat.le_of_ble_eq_true rfl⟩ ?_
            refine lv_imul hx hb dX4_bestDown_51 ?_
            refine lv_topi (fun gg egg => ?_)
            refine lv_istore (lv' := [(5, .int gg), (0, .ref (ad 0)), (1, .int x), (2, .int bst), (3, .int gr), (4, .int (nI (9 + j)))]) hx hb dX4_bestDown_52 hl (by decide) rfl (fun ls hl => ?_)
            refine lv_iload hx hb dX4_bestDown_54 (lv_at hl 0 rfl) ?_
            refine lv_iload_n hx hb dX4_bestDown_56 rfl (lv_at hl 4 rfl) ?_
            refine lv_icmp_ge (tgt := 65) hx hb dX4_bestDown_57 (by decide) (fun c57 => ?_) (fun c57 => ?_)
            ·
              refine lv_iload_n hx hb dX4_bestDown_65 rfl (lv_at hl 3 rfl) ?_
              refine lv_istore_n (lv' := [(2, .int bst), (5, .int gg), (0, .ref (ad 0)), (1, .int x), (3, .int gr), (4, .int (nI (9 + j)))]) hx hb dX4_bestDown_66 rfl hl (by decide) rfl (fun ls hl => ?_)
              refine lv_iload hx hb dX4_bestDown_67 (lv_at hl 1 rfl) ?_
              refine lv_iload_n hx hb dX4_bestDown_69 rfl (lv_at hl 4 rfl) ?_
              refine lv_icmp_ge (tgt := 78) hx hb dX4_bestDown_70 (by decide) (fun c70 => ?_) (fun c70 => absurd (c57) c70)
              refine lv_iload_n hx hb dX4_bestDown_78 rfl (lv_at hl 4 rfl) ?_
              refine lv_istore_n (lv' := [(3, .int gr), (2, .int bst), (5, .int gg), (0, .ref (ad 0)), (1, .int x), (4, .int (nI (9 + j)))]) hx hb dX4_bestDown_79 rfl hl (by decide) rfl (fun ls hl => ?_)
              refine lv_iinc (v := nI (9 + (j + 1))) (lv' := [(4, .int (nI (9 + (j + 1)))), (3, .int gr), (2, .int bst), (5, .int gg), (0, .ref (ad 0)), (1, .int x)]) hx hb dX4_bestDown_80 hl (k := 5) rfl (nI_1 (9 + j)) (by decide) rfl (fun ls hl => ?_)
              refine lv_goto (tgt := 29) hx hb dX4_bestDown_83 (by decide) ?_
              exact ih29 (j + 1) bst gr (by omega) (dnB_no hg egg c57) (by omega) _ (lv_sub hl [4, 5, 2, 1, 0] rfl)
            ·
              refine lv_iload hx hb dX4_bestDown_60 (lv_at hl 5 rfl) ?_
              refine lv_goto (tgt := 66) hx hb dX4_bestDown_62 (by decide) ?_
              refine lv_istore_n (lv' := [(2, .int (nI (9 + j))), (5, .int gg), (0, .ref (ad 0)), (1, .int x), (3, .int gr), (4, .int (nI (9 + j)))]) hx hb dX4_bestDown_66 rfl hl (by decide) rfl (fun ls hl => ?_)
              refine lv_iload hx hb dX4_bestDown_67 (lv_at hl 1 rfl) ?_
              refine lv_iload_n hx hb dX4_bestDown_69 rfl (lv_at hl 4 rfl) ?_
              refine lv_icmp_ge (tgt := 78) hx hb dX4_bestDown_70 (by decide) (fun c70 => absurd c70 (c57)) (fun c70 => ?_)
              refine lv_iload hx hb dX4_bestDown_73 (lv_at hl 1 rfl) ?_
              refine lv_goto (tgt := 79) hx hb dX4_bestDown_75 (by decide) ?_
              refine lv_istore_n (lv' := [(3, .int gg), (2, .int (nI (9 + j))), (5, .int gg), (0, .ref (ad 0)), (1, .int x), (4, .int (nI (9 + j)))]) hx hb dX4_bestDown_79 rfl hl (by decide) rfl (fun ls hl => ?_)
              refine lv_iinc (v := nI (9 + (j + 1))) (lv' := [(4, .int (nI (9 + (j + 1)))), (3, .int gg), (2, .int (nI (9 + j))), (5, .int gg), (0, .ref (ad 0)), (1, .int x)]) hx hb dX4_bestDown_80 hl (k := 5) rfl (nI_1 (9 + j)) (by decide) rfl (fun ls hl => ?_)
              refine lv_goto (tgt := 29) hx hb dX4_bestDown_83 (by decide) ?_
              exact ih29 (j + 1) (nI (9 + j)) gg (by omega) (dnB_yes hg egg c57) (by omega) _ (lv_sub hl [4, 5, 2, 1, 0] rfl)
      exact loop29 11 0 (-1) 0 (by omega) rfl (by omega) _ (lv_sub hl [3, 4, 2, 1, 0] rfl)
    ·
      replace c16 := bI_n0.mp c16
      have c16 := mt rE_0.mpr c16
      refine lv_iconst (v := 0) hx hb dX4_bestDown_19 (by decide +kernel) ?_
      exact s_miret hx hb hr hlk dX4_bestDown_20 ((if_neg c16).symm) hS
  refine lv_iload_n hx hb dX4_bestDown_1 rfl (lv_at hl 1 rfl) ?_
  refine s_ciS (As := [.int x]) (rest := [.ref (ad 0)]) ⟨hx, hb, hml, hown, hts⟩ (c_X4_isColumn l x ) (va_cwS 1 hts gX4_bestDown_X4_isColumn rfl rfl rfl hdS_X4_isColumn ⟨Nat.le_of_ble_eq_true rfl, Nat.le_of_ble_eq_true rfl⟩) sPS0 rfl hl.1 rfl (Nat.le_of_ble_eq_true rfl) dX4_bestDown_2 ⟨Nat.le_of_ble_eq_true rfl, Nat.le_of_ble_eq_true rfl⟩ ?_
  refine lv_if_eq (tgt := 12) hx hb dX4_bestDown_5 (by decide) (fun c5 => ?_) (fun c5 => ?_)
  ·
    replace c5 := bI_0.mp c5
    refine lv_iconst (v := 1) hx hb dX4_bestDown_12 (by decide +kernel) ?_
    exact j13 1 (rE_b c5) _ (lv_sub hl [0, 1] rfl)
  ·
    replace c5 := bI_n0.mp c5
    refine lv_iconst (v := 0) hx hb dX4_bestDown_8 (by decide +kernel) ?_
    refine lv_goto (tgt := 13) hx hb dX4_bestDown_9 (by decide) ?_
    exact j13 0 (rE_a c5) _ (lv_sub hl [0, 1] rfl)
set_option maxRecDepth 100000 in
set_option maxHeartbeats 4000000 in
theorem c_X4_bestCourse (l : Launch) (D : sD) (B : Nat) (ad : Nat → Nat) (rf : Int32) (κ : sQ) (sz : Nat) (x : Int32) (f : Int32) (b : Int32) (n : Nat) (hn9 : κ 0 0 = nI n) (hn60 : n ≤ 60) (hok : ∀ i, i < n → tOk κ i) : Met l yX4_bestCourse wsX4_bestCourse ({ frames := 6, cells := 0, slots := 0, locals := 143 } : Room) (sPz D B (MW D ad rf κ) sz ([.ref (ad 0), .int x, .int f, .int b] : List Value)) (va_Qi (S := Unit) (fun rr _ => rr = if (0 ≤ x ∧ x ≤ 9) ∧ ((0 ≤ f ∧ f ≤ 359) ∧ (0 ≤ b ∧ b ≤ 359)) then (upB (fun h => fmx (tSp κ) (tWs κ) (tWa κ) (rowI (t360 (f - nI h))) x n * cs (nI h - b)) 0 360).1 else 0) (fun _ t => va_P D.1 vwCl (MW D ad (rL (0 ≤ x ∧ x ≤ 9) ((0 ≤ f ∧ f ≤ 359) ∧ (0 ≤ b ∧ b ≤ 359))) κ) t.heap) (rA 8 ad sz)) 0 0 (rA 8 ad sz) := by
  refine s_head (cc := cX4_bestCourse) (maxL := 12) (ret := (some .int)) (by decide +kernel) rfl (Nat.le_of_ble_eq_true rfl) ?_
  intro p e s m below meth c hx hb hr hlk hml hown hnm hts hB0 ls hl
  obtain ⟨hsz, hJ⟩ := hB0
  have hown : s.vm.findClass RX4 = some m.cls := hown
  have hl : lv_has ls 12 [(0, .ref (ad 0)), (1, .int x), (2, .int f), (3, .int b)] := hl
  subst hsz
  have hS := sS.start hJ (MW_adr D ad rf κ)
  have j27 : ∀ (q9 : Int32) (hq9 : q9 = bI ((0 ≤ f ∧ f ≤ 359) ∧ (0 ≤ b ∧ b ≤ 359))) (ls : Array Slot), lv_has ls 12 [(0, .ref (ad 0)), (1, .int x), (2, .int f), (3, .int b)] → W p l e ({ frames := 6, cells := 0, slots := 0, locals := 143 } : Room) s m ([.ref (ad 0), .int x, .int f, .int b] : List Value).toArray below meth c s.heap [] 0 0 (MQ below (va_Qi (S := Unit) (fun rr _ => rr = if (0 ≤ x ∧ x ≤ 9) ∧ ((0 ≤ f ∧ f ≤ 359) ∧ (0 ≤ b ∧ b ≤ 359)) then (upB (fun h => fmx (tSp κ) (tWs κ) (tWa κ) (rowI (t360 (f - nI h))) x n * cs (nI h - b)) 0 360).1 else 0) (fun _ t => va_P D.1 vwCl (MW D ad (rL (0 ≤ x ∧ x ≤ 9) ((0 ≤ f ∧ f ≤ 359) ∧ (0 ≤ b ∧ b ≤ 359))) κ) t.heap) (rA 8 ad s.heap.size)) ([.ref (ad 0), .int x, .int f, .int b] : List Value).toArray s 0 0 (rA 8 ad s.heap.size)) (F0 m 27 ls [.int q9]) := by
    intro q9 hq9 ls hl
    subst hq9
    refine lv_istore (lv' := [(4, .int (bI ((0 ≤ f ∧ f ≤ 359) ∧ (0 ≤ b ∧ b ≤ 359)))), (0, .ref (ad 0)), (1, .int x), (2, .int f), (3, .int b)]) hx hb dX4_bestCourse_27 hl (by decide) rfl (fun ls hl => ?_)
    refine lv_aload_n hx hb dX4_bestCourse_29 rfl (lv_at hl 1 rfl) ?_
    have j51 : ∀ (v9 : Int32) (hv9 : v9 = rL (0 ≤ x ∧ x ≤ 9) ((0 ≤ f ∧ f ≤ 359) ∧ (0 ≤ b ∧ b ≤ 359))) (ls : Array Slot), lv_has ls 12 [(4, .int (bI ((0 ≤ f ∧ f ≤ 359) ∧ (0 ≤ b ∧ b ≤ 359)))), (0, .ref (ad 0)), (1, .int x), (2, .int f), (3, .int b)] → W p l e ({ frames := 6, cells := 0, slots := 0, locals := 143 } : Room) s m ([.ref (ad 0), .int x, .int f, .int b] : List Value).toArray below meth c s.heap [] 0 0 (MQ below (va_Qi (S := Unit) (fun rr _ => rr = if (0 ≤ x ∧ x ≤ 9) ∧ ((0 ≤ f ∧ f ≤ 359) ∧ (0 ≤ b ∧ b ≤ 359)) then (upB (fun h => fmx (tSp κ) (tWs κ) (tWa κ) (rowI (t360 (f - nI h))) x n * cs (nI h - b)) 0 360).1 else 0) (fun _ t => va_P D.1 vwCl (MW D ad (rL (0 ≤ x ∧ x ≤ 9) ((0 ≤ f ∧ f ≤ 359) ∧ (0 ≤ b ∧ b ≤ 359))) κ) t.heap) (rA 8 ad s.heap.size)) ([.ref (ad 0), .int x, .int f, .int b] : List Value).toArray s 0 0 (rA 8 ad s.heap.size)) (F0 m 51 ls [.int v9, .ref (ad 0)]) := by
      intro v9 hv9 ls hl
      subst hv9
      refine s_miV (wd' := (MW D ad (rL (0 ≤ x ∧ x ≤ 9) ((0 ≤ f ∧ f ≤ 359) ∧ (0 ≤ b ∧ b ≤ 359))) κ)) (As := [.int (rL (0 ≤ x ∧ x ≤ 9) ((0 ≤ f ∧ f ≤ 359) ∧ (0 ≤ b ∧ b ≤ 359)))]) (rest := []) ⟨hx, hb, hml, hown, hts⟩ (c_X4_refused l D B ad rf κ s.heap.size (rL (0 ≤ x ∧ x ≤ 9) ((0 ≤ f ∧ f ≤ 359) ∧ (0 ≤ b ∧ b ≤ 359))) ) (cwV 1 hts gX4_bestCourse_X4_refused rfl rfl rfl hdV_X4_refused ⟨Nat.le_of_ble_eq_true rfl, Nat.le_of_ble_eq_true rfl⟩) (sPVz hS.1 (ci := 4) (q0 := 0) rfl rfl) hS (MW_adr _ _ _ _) (MW_adr _ _ _ _) rfl hl.1 rfl (Nat.le_of_ble_eq_true rfl) dX4_bestCourse_51 ⟨Nat.le_of_ble_eq_true rfl, Nat.le_of_ble_eq_true rfl⟩ (fun H locs hS => ?_)
      refine lv_if_eq (tgt := 59) hx hb dX4_bestCourse_54 (by decide) (fun c54 => ?_) (fun c54 => ?_)
      ·
        replace c54 := bI_0.mp c54
        have c54 := rL_0.mp (Decidable.not_not.mp c54)
        refine lv_iconst (v := (-1)) hx hb dX4_bestCourse_59 (by decide +kernel) ?_
        refine lv_istore (lv' := [(5, .int (-1)), (4, .int (bI ((0 ≤ f ∧ f ≤ 359) ∧ (0 ≤ b ∧ b ≤ 359)))), (0, .ref (ad 0)), (1, .int x), (2, .int f), (3, .int b)]) hx hb dX4_bestCourse_60 hl (by decide) rfl (fun ls hl => ?_)
        refine lv_iconst (v := 0) hx hb dX4_bestCourse_62 (by decide +kernel) ?_
        refine lv_istore (lv' := [(6, .int 0), (5, .int (-1)), (4, .int (bI ((0 ≤ f ∧ f ≤ 359) ∧ (0 ≤ b ∧ b ≤ 359)))), (0, .ref (ad 0)), (1, .int x), (2, .int f), (3, .int b)]) hx hb dX4_bestCourse_63 hl (by decide) rfl (fun ls hl => ?_)
        refine lv_iconst (v := (-1)) hx hb dX4_bestCourse_65 (by decide +kernel) ?_
        refine lv_istore (lv' := [(7, .int (-1)), (6, .int 0), (5, .int (-1)), (4, .int (bI ((0 ≤ f ∧ f ≤ 359) ∧ (0 ≤ b ∧ b ≤ 359)))), (0, .ref (ad 0)), (1, .int x), (2, .int f), (3, .int b)]) hx hb dX4_bestCourse_66 hl (by decide) rfl (fun ls hl => ?_)
        refine lv_iconst (v := 0) hx hb dX4_bestCourse_68 (by decide +kernel) ?_
        refine lv_istore (lv' := [(8, .int 0), (7, .int (-1)), (6, .int 0), (5, .int (-1)), (4, .int (bI ((0 ≤ f ∧ f ≤ 359) ∧ (0 ≤ b ∧ b ≤ 359)))), (0, .ref (ad 0)), (1, .int x), (2, .int f), (3, .int b)]) hx hb dX4_bestCourse_69 hl (by decide) rfl (fun ls hl => ?_)
        refine lv_iconst (v := 0) hx hb dX4_bestCourse_71 (by decide +kernel) ?_
        refine lv_istore (lv' := [(9, .int 0), (8, .int 0), (7, .int (-1)), (6, .int 0), (5, .int (-1)), (4, .int (bI ((0 ≤ f ∧ f ≤ 359) ∧ (0 ≤ b ∧ b ≤ 359)))), (0, .ref (ad 0)), (1, .int x), (2, .int f), (3, .int b)]) hx hb dX4_bestCourse_72 hl (by decide) rfl (fun ls hl => ?_)
        have loop74 : ∀ (fuel : Nat) (j : Nat) (bst : Int32) (gr : Int32) (rw9 : Int32) (sp9 : Int32) (hj : j ≤ 360) (hg : upB (fun h => fmx (tSp κ) (tWs κ) (tWa κ) (rowI (t360 (f - nI h))) x n * cs (nI h - b)) 0 j = (bst, gr)) (hsp : rw9 = -1 ∨ sp9 = fmx (tSp κ) (tWs κ) (tWa κ) rw9 x n) (hfu : 361 ≤ j + fuel) (ls : Array Slot), lv_has ls 12 [(0, .ref (ad 0)), (1, .int x), (2, .int f), (3, .int b), (5, .int bst), (6, .int gr), (7, .int rw9), (8, .int sp9), (9, .int (nI j))] → W p l e ({ frames := 6, cells := 0, slots := 0, locals := 143 } : Room) s m ([.ref (ad 0), .int x, .int f, .int b] : List Value).toArray below meth c H locs 0 0 (MQ below (va_Qi (S := Unit) (fun rr _ => rr = if (0 ≤ x ∧ x ≤ 9) ∧ ((0 ≤ f ∧ f ≤ 359) ∧ (0 ≤ b ∧ b ≤ 359)) then (upB (fun h => fmx (tSp κ) (tWs κ) (tWa κ) (rowI (t360 (f - nI h))) x n * cs (nI h - b)) 0 360).1 else 0) (fun _ t => va_P D.1 vwCl (MW D ad (rL (0 ≤ x ∧ x ≤ 9) ((0 ≤ f ∧ f ≤ 359) ∧ (0 ≤ b ∧ b ≤ 359))) κ) t.heap) (rA 8 ad s.heap.size)) ([.ref (ad 0), .int x, .int f, .int b] : List Value).toArray s 0 0 (rA 8 ad s.heap.size)) (F0 m 74 ls []) := by
          intro fuel
          induction fuel with
          | zero => intro j bst gr rw9 sp9 hj hg hsp hfu ls hl; exact absurd (hfu) (by omega)
          | succ fuel ih74 =>
            intro j bst gr rw9 sp9 hj hg hsp hfu ls hl
            refine lv_iload hx hb dX4_bestCourse_74 (lv_at hl 8 rfl) ?_
            refine lv_sipush (v := 360) hx hb dX4_bestCourse_76 (by decide +kernel) ?_
            refine lv_icmp_ge (tgt := 175) hx hb dX4_bestCourse_79 (by decide) (fun c79 => ?_) (fun c79 => ?_)
            ·
              refine lv_iload hx hb dX4_bestCourse_175 (lv_at hl 4 rfl) ?_
              exact s_miret hx hb hr hlk dX4_bestCourse_177 (by rw [if_pos c54, show 360 = j from by have := (nI_leI (a := 360) (b := j) (by omega) (by omega)).mp c79; omega, hg]) hS
            ·
              have hj2 : j < 360 := by have := mt (nI_leI (a := 360) (b := j) (by omega) (by omega)).mpr c79; omega
              refine lv_iload_n hx hb dX4_bestCourse_82 rfl (lv_at hl 2 rfl) ?_
              refine lv_iload hx hb dX4_bestCourse_83 (lv_at hl 8 rfl) ?_
              refine lv_isub hx hb dX4_bestCourse_85 ?_
              refine s_ciS (As := [.int (f - (nI j))]) (rest := []) ⟨hx, hb, hml, hown, hts⟩ (c_X4_turned l (f - (nI j)) ) (va_cwS 1 hts gX4_bestCourse_X4_turned rfl rfl rfl hdS_X4_turned ⟨Nat.le_of_ble_eq_true rfl, Nat.le_of_ble_eq_true rfl⟩) sPS0 rfl hl.1 rfl (Nat.le_of_ble_eq_true rfl) dX4_bestCourse_86 ⟨Nat.le_of_ble_eq_true rfl, Nat.le_of_ble_eq_true rfl⟩ ?_
              refine s_ciS (As := [.int (t360 (f - (nI j)))]) (rest := []) ⟨hx, hb, hml, hown, hts⟩ (c_X4_opened l (t360 (f - (nI j))) ) (va_cwS 1 hts gX4_bestCourse_X4_opened rfl rfl rfl hdS_X4_opened ⟨Nat.le_of_ble_eq_true rfl, Nat.le_of_ble_eq_true rfl⟩) sPS0 rfl hl.1 rfl (Nat.le_of_ble_eq_true rfl) dX4_bestCourse_89 ⟨Nat.le_of_ble_eq_true rfl, Nat.le_of_ble_eq_true rfl⟩ ?_
              refine lv_bipush (v := 10) hx hb dX4_bestCourse_92 (by decide +kernel) ?_
              refine lv_idiv hx hb dX4_bestCourse_94 (by decide +kernel) ?_
              refine lv_topi (fun zz ezz => ?_)
              obtain rfl : zz = rowI (t360 (f - nI j)) := ezz.trans (rfl)
              refine lv_istore (lv' := [(10, .int (rowI (t360 (f - nI j)))), (0, .ref (ad 0)), (1, .int x), (2, .int f), (3, .int b), (5, .int bst), (6, .int gr), (7, .int rw9), (8, .int sp9), (9, .int (nI j))]) hx hb dX4_bestCourse_95 hl (by decide) rfl (fun ls hl => ?_)
              have j116 : ∀ (vs : Int32) (hvs : vs = fmx (tSp κ) (tWs κ) (tWa κ) (rowI (t360 (f - nI j))) x n) (ls : Array Slot), lv_has ls 12 [(10, .int (rowI (t360 (f - nI j)))), (0, .ref (ad 0)), (1, .int x), (2, .int f), (3, .int b), (5, .int bst), (6, .int gr), (7, .int rw9), (8, .int sp9), (9, .int (nI j))] → W p l e ({ frames := 6, cells := 0, slots := 0, locals := 143 } : Room) s m ([.ref (ad 0), .int x, .int f, .int b] : List Value).toArray below meth c H locs 0 0 (MQ below (va_Qi (S := Unit) (fun rr _ => rr = if (0 ≤ x ∧ x ≤ 9) ∧ ((0 ≤ f ∧ f ≤ 359) ∧ (0 ≤ b ∧ b ≤ 359)) then (upB (fun h => fmx (tSp κ) (tWs κ) (tWa κ) (rowI (t360 (f - nI h))) x n * cs (nI h - b)) 0 360).1 else 0) (fun _ t => va_P D.1 vwCl (MW D ad (rL (0 ≤ x ∧ x ≤ 9) ((0 ≤ f ∧ f ≤ 359) ∧ (0 ≤ b ∧ b ≤ 359))) κ) t.heap) (rA 8 ad s.heap.size)) ([.ref (ad 0), .int x, .int f, .int b] : List Value).toArray s 0 0 (rA 8 ad s.heap.size)) (F0 m 116 ls [.int vs]) := by
                intro vs hvs ls hl
                refine lv_istore (lv' := [(8, .int vs), (10, .int (rowI (t360 (f - nI j)))), (0, .ref (ad 0)), (1, .int x), (2, .int f), (3, .int b), (5, .int bst), (6, .int gr), (7, .int rw9), (9, .int (nI j))]) hx hb dX4_bestCourse_116 hl (by decide) rfl (fun ls hl => ?_)
                refine lv_iload hx hb dX4_bestCourse_118 (lv_at hl 1 rfl) ?_
                refine lv_istore (lv' := [(7, .int (rowI (t360 (f - nI j)))), (8, .int vs), (10, .int (rowI (t360 (f - nI j)))), (0, .ref (ad 0)), (1, .int x), (2, .int f), (3, .int b), (5, .int bst), (6, .int gr), (9, .int (nI j))]) hx hb dX4_bestCourse_120 hl (by decide) rfl (fun ls hl => ?_)
                refine lv_iload hx hb dX4_bestCourse_122 (lv_at hl 1 rfl) ?_
                refine lv_iload hx hb dX4_bestCourse_124 (lv_at hl 9 rfl) ?_
                refine lv_iload_n hx hb dX4_bestCourse_126 rfl (lv_at hl 6 rfl) ?_
                refine lv_isub hx hb dX4_bestCourse_127 ?_
                refine s_ciS (As := [.int ((nI j) - b)]) (rest := [.int vs]) ⟨hx, hb, hml, hown, hts⟩ (c_X4_turned l ((nI j) - b) ) (va_cwS 1 hts gX4_bestCourse_X4_turned rfl rfl rfl hdS_X4_turned ⟨Nat.le_of_ble_eq_true rfl, Nat.le_of_ble_eq_true rfl⟩) sPS0 rfl hl.1 rfl (Nat.le_of_ble_eq_true rfl) dX4_bestCourse_128 ⟨Nat.le_of_ble_eq_true rfl, Nat.le_of_ble_eq_true rfl⟩ ?_
                refine s_ciS (As := [.int (t360 ((nI j) - b))]) (rest := [.int vs]) ⟨hx, hb, hml, hown, hts⟩ (c_X4_cos l (t360 ((nI j) - b)) ) (va_cwS 1 hts gX4_bestCourse_X4_cos rfl rfl rfl hdS_X4_cos ⟨Nat.le_of_ble_eq_true rfl, Nat.le_of_ble_eq_true rfl⟩) sPS0 rfl hl.1 rfl (Nat.le_of_ble_eq_true rfl) dX4_bestCourse_131 ⟨Nat.le_of_ble_eq_true rfl, Nat.le_of_ble_eq_true rfl⟩ ?_
                refine lv_topi (fun zz ezz => ?_)
                obtain rfl : zz = cs (nI j - b) := ezz.trans (cs_t _)
                refine lv_imul hx hb dX4_bestCourse_134 ?_
                refine lv_topi (fun gg egg => ?_)
                refine lv_istore (lv' := [(11, .int gg), (7, .int (rowI (t360 (f - nI j)))), (8, .int vs), (10, .int (rowI (t360 (f - nI j)))), (0, .ref (ad 0)), (1, .int x), (2, .int f), (3, .int b), (5, .int bst), (6, .int gr), (9, .int (nI j))]) hx hb dX4_bestCourse_135 hl (by decide) rfl (fun ls hl => ?_)
                refine lv_iload hx hb dX4_bestCourse_137 (lv_at hl 0 rfl) ?_
                refine lv_iload hx hb dX4_bestCourse_139 (lv_at hl 9 rfl) ?_
                refine lv_icmp_le (tgt := 149) hx hb dX4_bestCourse_141 (by decide) (fun c141 => ?_) (fun c141 => ?_)
                ·
                  refine lv_iload hx hb dX4_bestCourse_149 (lv_at hl 8 rfl) ?_
                  refine lv_istore (lv' := [(5, .int bst), (11, .int gg), (7, .int (rowI (t360 (f - nI j)))), (8, .int vs), (10, .int (rowI (t360 (f - nI j)))), (0, .ref (ad 0)), (1, .int x), (2, .int f), (3, .int b), (6, .int gr), (9, .int (nI j))]) hx hb dX4_bestCourse_151 hl (by decide) rfl (fun ls hl => ?_)
                  refine lv_iload hx hb dX4_bestCourse_153 (lv_at hl 1 rfl) ?_
                  refine lv_iload hx hb dX4_bestCourse_155 (lv_at hl 9 rfl) ?_
                  refine lv_icmp_le (tgt := 165) hx hb dX4_bestCourse_157 (by decide) (fun c157 => ?_) (fun c157 => absurd (c141) c157)
                  refine lv_iload hx hb dX4_bestCourse_165 (lv_at hl 9 rfl) ?_
                  refine lv_istore (lv' := [(6, .int gr), (5, .int bst), (11, .int gg), (7, .int (rowI (t360 (f - nI j)))), (8, .int vs), (10, .int (rowI (t360 (f - nI j)))), (0, .ref (ad 0)), (1, .int x), (2, .int f), (3, .int b), (9, .int (nI j))]) hx hb dX4_bestCourse_167 hl (by decide) rfl (fun ls hl => ?_)
                  refine lv_iinc (v := nI (j + 1)) (lv' := [(9, .int (nI (j + 1))), (6, .int gr), (5, .int bst), (11, .int gg), (7, .int (rowI (t360 (f - nI j)))), (8, .int vs), (10, .int (rowI (t360 (f - nI j)))), (0, .ref (ad 0)), (1, .int x), (2, .int f), (3, .int b)]) hx hb dX4_bestCourse_169 hl (k := 10) rfl (nI_1 j) (by decide) rfl (fun ls hl => ?_)
                  refine lv_goto (tgt := 74) hx hb dX4_bestCourse_172 (by decide) ?_
                  exact ih74 (j + 1) bst gr (rowI (t360 (f - nI j))) vs (by omega) (upB_no hg (by rw [Nat.zero_add]; exact egg.trans (congrArg (· * cs (nI j - b)) hvs)) c141) (Or.inr hvs) (by omega) _ (lv_sub hl [7, 8, 9, 10, 2, 1, 4, 5, 0] rfl)
                ·
                  refine lv_iload hx hb dX4_bestCourse_144 (lv_at hl 10 rfl) ?_
                  refine lv_goto (tgt := 151) hx hb dX4_bestCourse_146 (by decide) ?_
                  refine lv_istore (lv' := [(5, .int (nI j)), (11, .int gg), (7, .int (rowI (t360 (f - nI j)))), (8, .int vs), (10, .int (rowI (t360 (f - nI j)))), (0, .ref (ad 0)), (1, .int x), (2, .int f), (3, .int b), (6, .int gr), (9, .int (nI j))]) hx hb dX4_bestCourse_151 hl (by decide) rfl (fun ls hl => ?_)
                  refine lv_iload hx hb dX4_bestCourse_153 (lv_at hl 1 rfl) ?_
                  refine lv_iload hx hb dX4_bestCourse_155 (lv_at hl 9 rfl) ?_
                  refine lv_icmp_le (tgt := 165) hx hb dX4_bestCourse_157 (by decide) (fun c157 => absurd c157 (c141)) (fun c157 => ?_)
                  refine lv_iload hx hb dX4_bestCourse_160 (lv_at hl 1 rfl) ?_
                  refine lv_goto (tgt := 167) hx hb dX4_bestCourse_162 (by decide) ?_
                  refine lv_istore (lv' := [(6, .int gg), (5, .int (nI j)), (11, .int gg), (7, .int (rowI (t360 (f - nI j)))), (8, .int vs), (10, .int (rowI (t360 (f - nI j)))), (0, .ref (ad 0)), (1, .int x), (2, .int f), (3, .int b), (9, .int (nI j))]) hx hb dX4_bestCourse_167 hl (by decide) rfl (fun ls hl => ?_)
                  refine lv_iinc (v := nI (j + 1)) (lv' := [(9, .int (nI (j + 1))), (6, .int gg), (5, .int (nI j)), (11, .int gg), (7, .int (rowI (t360 (f - nI j)))), (8, .int vs), (10, .int (rowI (t360 (f - nI j)))), (0, .ref (ad 0)), (1, .int x), (2, .int f), (3, .int b)]) hx hb dX4_bestCourse_169 hl (k := 10) rfl (nI_1 j) (by decide) rfl (fun ls hl => ?_)
                  refine lv_goto (tgt := 74) hx hb dX4_bestCourse_172 (by decide) ?_
                  exact ih74 (j + 1) (nI j) gg (rowI (t360 (f - nI j))) vs (by omega) (by have := upB_yes hg (by rw [Nat.zero_add]; exact egg.trans (congrArg (· * cs (nI j - b)) hvs)) c141; rw [Nat.zero_add] at this; exact this) (Or.inr hvs) (by omega) _ (lv_sub hl [7, 8, 9, 10, 2, 1, 4, 5, 0] rfl)
              refine lv_iload hx hb dX4_bestCourse_97 (lv_at hl 0 rfl) ?_
              refine lv_iload hx hb dX4_bestCourse_99 (lv_at hl 7 rfl) ?_
              refine lv_icmp_ne (tgt := 109) hx hb dX4_bestCourse_101 (by decide) (fun c101 => ?_) (fun c101 => ?_)
              ·
                refine lv_aload_n hx hb dX4_bestCourse_109 rfl (lv_at hl 1 rfl) ?_
                refine lv_iload hx hb dX4_bestCourse_110 (lv_at hl 0 rfl) ?_
                refine lv_iload_n hx hb dX4_bestCourse_112 rfl (lv_at hl 2 rfl) ?_
                refine s_ciV (As := [.int (rowI (t360 (f - nI j))), .int x]) (rest := []) ⟨hx, hb, hml, hown, hts⟩ (c_X4_field l D B ad (rL (0 ≤ x ∧ x ≤ 9) ((0 ≤ f ∧ f ≤ 359) ∧ (0 ≤ b ∧ b ≤ 359))) κ (rowI (t360 (f - nI j))) x n (by assumption) (by assumption) (by assumption)) (cwV 2 hts gX4_bestCourse_X4_field rfl rfl rfl hdV_X4_field ⟨Nat.le_of_ble_eq_true rfl, Nat.le_of_ble_eq_true rfl⟩) (sPV hS.1 (ci := 4) (q0 := 0) rfl rfl) rfl hl.1 rfl (Nat.le_of_ble_eq_true rfl) dX4_bestCourse_113 ⟨Nat.le_of_ble_eq_true rfl, Nat.le_of_ble_eq_true rfl⟩ ?_
                exact j116 (fmx (tSp κ) (tWs κ) (tWa κ) (rowI (t360 (f - nI j))) x n) (rfl) _ (lv_sub hl [0, 1, 2, 3, 4, 5, 6, 7, 8, 9] rfl)
              ·
                refine lv_iload hx hb dX4_bestCourse_104 (lv_at hl 8 rfl) ?_
                refine lv_goto (tgt := 116) hx hb dX4_bestCourse_106 (by decide) ?_
                exact j116 sp9 (rw_f (T := fun q => fmx (tSp κ) (tWs κ) (tWa κ) q x n) hsp c101) _ (lv_sub hl [0, 1, 2, 3, 4, 5, 6, 7, 8, 9] rfl)
        exact loop74 361 0 (-1) 0 (-1) 0 (by omega) rfl (Or.inl rfl) (by omega) _ (lv_sub hl [6, 7, 8, 9, 4, 3, 2, 1, 0] rfl)
      ·
        replace c54 := bI_n0.mp c54
        have c54 := mt rL_0.mpr c54
        refine lv_iconst (v := 0) hx hb dX4_bestCourse_57 (by decide +kernel) ?_
        exact s_miret hx hb hr hlk dX4_bestCourse_58 ((if_neg c54).symm) hS
    refine lv_iload_n hx hb dX4_bestCourse_30 rfl (lv_at hl 2 rfl) ?_
    refine s_ciS (As := [.int x]) (rest := [.ref (ad 0)]) ⟨hx, hb, hml, hown, hts⟩ (c_X4_isColumn l x ) (va_cwS 1 hts gX4_bestCourse_X4_isColumn rfl rfl rfl hdS_X4_isColumn ⟨Nat.le_of_ble_eq_true rfl, Nat.le_of_ble_eq_true rfl⟩) sPS0 rfl hl.1 rfl (Nat.le_of_ble_eq_true rfl) dX4_bestCourse_31 ⟨Nat.le_of_ble_eq_true rfl, Nat.le_of_ble_eq_true rfl⟩ ?_
    refine lv_if_ne (tgt := 41) hx hb dX4_bestCourse_34 (by decide) (fun c34 => ?_) (fun c34 => ?_)
    ·
      replace c34 := bI_n0.mp c34
      refine lv_iload hx hb dX4_bestCourse_41 (lv_at hl 0 rfl) ?_
      refine lv_if_eq (tgt := 50) hx hb dX4_bestCourse_43 (by decide) (fun c43 => ?_) (fun c43 => ?_)
      ·
        replace c43 := bI_0.mp c43
        refine lv_iconst (v := 2) hx hb dX4_bestCourse_50 (by decide +kernel) ?_
        exact j51 2 (rL_c c34 c43) _ (lv_sub hl [0, 1, 2, 3, 4] rfl)
      ·
        replace c43 := bI_n0.mp c43
        refine lv_iconst (v := 0) hx hb dX4_bestCourse_46 (by decide +kernel) ?_
        refine lv_goto (tgt := 51) hx hb dX4_bestCourse_47 (by decide) ?_
        exact j51 0 (rL_b c34 c43) _ (lv_sub hl [0, 1, 2, 3, 4] rfl)
    ·
      replace c34 := bI_0.mp c34
      refine lv_iconst (v := 1) hx hb dX4_bestCourse_37 (by decide +kernel) ?_
      refine lv_goto (tgt := 51) hx hb dX4_bestCourse_38 (by decide) ?_
      exact j51 1 (rL_a c34) _ (lv_sub hl [0, 1, 2, 3, 4] rfl)
  refine lv_iload_n hx hb dX4_bestCourse_0 rfl (lv_at hl 2 rfl) ?_
  refine lv_iconst (v := 0) hx hb dX4_bestCourse_1 (by decide +kernel) ?_
  refine lv_sipush (v := 359) hx hb dX4_bestCourse_2 (by decide +kernel) ?_
  refine s_ciS (As := [.int f, .int 0, .int 359]) (rest := []) ⟨hx, hb, hml, hown, hts⟩ (c_X4_in l f 0 359 ) (va_cwS 3 hts gX4_bestCourse_X4_in rfl rfl rfl hdS_X4_in ⟨Nat.le_of_ble_eq_true rfl, Nat.le_of_ble_eq_true rfl⟩) sPS0 rfl hl.1 rfl (Nat.le_of_ble_eq_true rfl) dX4_bestCourse_5 ⟨Nat.le_of_ble_eq_true rfl, Nat.le_of_ble_eq_true rfl⟩ ?_
  refine lv_if_eq (tgt := 26) hx hb dX4_bestCourse_8 (by decide) (fun c8 => ?_) (fun c8 => ?_)
  ·
    replace c8 := bI_0.mp c8
    refine lv_iconst (v := 0) hx hb dX4_bestCourse_26 (by decide +kernel) ?_
    exact j27 0 ((bI_f (fun q => c8 q.1)).symm) _ (lv_sub hl [0, 1, 2, 3] rfl)
  ·
    replace c8 := bI_n0.mp c8
    refine lv_iload_n hx hb dX4_bestCourse_11 rfl (lv_at hl 3 rfl) ?_
    refine lv_iconst (v := 0) hx hb dX4_bestCourse_12 (by decide +kernel) ?_
    refine lv_sipush (v := 359) hx hb dX4_bestCourse_13 (by decide +kernel) ?_
    refine s_ciS (As := [.int b, .int 0, .int 359]) (rest := []) ⟨hx, hb, hml, hown, hts⟩ (c_X4_in l b 0 359 ) (va_cwS 3 hts gX4_bestCourse_X4_in rfl rfl rfl hdS_X4_in ⟨Nat.le_of_ble_eq_true rfl, Nat.le_of_ble_eq_true rfl⟩) sPS0 rfl hl.1 rfl (Nat.le_of_ble_eq_true rfl) dX4_bestCourse_16 ⟨Nat.le_of_ble_eq_true rfl, Nat.le_of_ble_eq_true rfl⟩ ?_
    refine lv_if_eq (tgt := 26) hx hb dX4_bestCourse_19 (by decide) (fun c19 => ?_) (fun c19 => ?_)
    ·
      replace c19 := bI_0.mp c19
      refine lv_iconst (v := 0) hx hb dX4_bestCourse_26 (by decide +kernel) ?_
      exact j27 0 ((bI_f (fun q => c19 q.2)).symm) _ (lv_sub hl [0, 1, 2, 3] rfl)
    ·
      replace c19 := bI_n0.mp c19
      refine lv_iconst (v := 1) hx hb dX4_bestCourse_22 (by decide +kernel) ?_
      refine lv_goto (tgt := 27) hx hb dX4_bestCourse_23 (by decide) ?_
      exact j27 1 ((bI_t ⟨c8, c19⟩).symm) _ (lv_sub hl [0, 1, 2, 3] rfl)
