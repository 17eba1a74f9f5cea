set_option maxRecDepth 100000 in
set_option maxHeartbeats 4000000 in
theorem c_X4_costs (l : Launch) (D : sD) (B : Nat) (ad : Nat → Nat) (rf : Int32) (κ : sQ) (sz : Nat) (x : Int32) (n : Nat) (hn9 : κ 0 0 = nI n) (hn60 : n ≤ 60) : Met l yX4_costs wsX4_costs ({ frames := 7, cells := 0, slots := 0, locals := 162 } : Room) (sPz D B (MW D ad rf κ) sz ([.ref (ad 0), .int x] : List Value)) (va_Qi (S := Unit) (fun rr _ => rr = if x = 1 ∨ x = 2 then costF (tWa κ) (κ 1) (tSp κ) n x n else 0) (fun _ t => va_P D.1 vwCl (MW D ad (rE (x = 1 ∨ x = 2)) κ) t.heap) (rA 8 ad sz)) 0 0 (rA 8 ad sz) := by
  refine s_head (cc := cX4_costs) (maxL := 4) (ret := (some .int)) (by decide +kernel) rfl (Nat.le_of_ble_eq_true rfl) ?_
  intro p e s m below meth c hx hb hr hlk hml hown hnm hts hB0 ls hl
  obtain ⟨hsz, hJ⟩ := hB0
  have hown : s.vm.findClass RX4 = some m.cls := hown
  have hl : lv_has ls 4 [(0, .ref (ad 0)), (1, .int x)] := hl
  subst hsz
  have hS := sS.start hJ (MW_adr D ad rf κ)
  have k42 : (Cond.fieldLink RX4 42 "SailLogModel" "entries" "I").before ([.ref (ad 0), .int x] : List Value).toArray s = true := hts _ (by decide +kernel)
  have i4 : ∀ w ∈ wsX40, w ∈ wsX4_costs := by decide +kernel
  refine lv_aload_n hx hb dX4_costs_0 rfl (lv_at hl 0 rfl) ?_
  have j16 : ∀ (v9 : Int32) (hv9 : v9 = rE (x = 1 ∨ x = 2)) (ls : Array Slot), lv_has ls 4 [(0, .ref (ad 0)), (1, .int x)] → W p l e ({ frames := 7, cells := 0, slots := 0, locals := 162 } : Room) s m ([.ref (ad 0), .int x] : List Value).toArray below meth c s.heap [] 0 0 (MQ below (va_Qi (S := Unit) (fun rr _ => rr = if x = 1 ∨ x = 2 then costF (tWa κ) (κ 1) (tSp κ) n x n else 0) (fun _ t => va_P D.1 vwCl (MW D ad (rE (x = 1 ∨ x = 2)) κ) t.heap) (rA 8 ad s.heap.size)) ([.ref (ad 0), .int x] : List Value).toArray s 0 0 (rA 8 ad s.heap.size)) (F0 m 16 ls [.int v9, .ref (ad 0)]) := by
    intro v9 hv9 ls hl
    subst hv9
    refine s_miV (wd' := (MW D ad (rE (x = 1 ∨ x = 2)) κ)) (As := [.int (rE (x = 1 ∨ x = 2))]) (rest := []) ⟨hx, hb, hml, hown, hts⟩ (c_X4_refused l D B ad rf κ s.heap.size (rE (x = 1 ∨ x = 2)) ) (cwV 1 hts gX4_costs_X4_refused rfl rfl rfl hdV_X4_refused ⟨Nat.le_of_ble_eq_true rfl, Nat.le_of_ble_eq_true rfl⟩) (sPVz hS.1 (ci := 4) (q0 := 0) rfl rfl) hS (MW_adr _ _ _ _) (MW_adr _ _ _ _) rfl hl.1 rfl (Nat.le_of_ble_eq_true rfl) dX4_costs_16 ⟨Nat.le_of_ble_eq_true rfl, Nat.le_of_ble_eq_true rfl⟩ (fun H locs hS => ?_)
    refine lv_if_eq (tgt := 24) hx hb dX4_costs_19 (by decide) (fun c19 => ?_) (fun c19 => ?_)
    ·
      replace c19 := bI_0.mp c19
      have c19 := rE_0.mp (Decidable.not_not.mp c19)
      have hx0 : ¬ x = 0 := by rcases c19 with e | e <;> rw [e] <;> decide +kernel
      refine lv_iconst (v := 0) hx hb dX4_costs_24 (by decide +kernel) ?_
      refine lv_istore_n (lv' := [(2, .int 0), (0, .ref (ad 0)), (1, .int x)]) hx hb dX4_costs_25 rfl hl (by decide) rfl (fun ls hl => ?_)
      refine lv_iconst (v := 1) hx hb dX4_costs_26 (by decide +kernel) ?_
      refine lv_istore_n (lv' := [(3, .int 1), (2, .int 0), (0, .ref (ad 0)), (1, .int x)]) hx hb dX4_costs_27 rfl hl (by decide) rfl (fun ls hl => ?_)
      have loop28 : ∀ (fuel : Nat) (j : Nat) (sm : Int32) (hj1 : 1 ≤ j) (hjn : j ≤ n ∨ (j = 1 ∧ n = 0)) (hs : costF (tWa κ) (κ 1) (tSp κ) n x j = sm) (hfu : n + 2 ≤ j + fuel) (ls : Array Slot), lv_has ls 4 [(0, .ref (ad 0)), (1, .int x), (2, .int sm), (3, .int (nI j))] → W p l e ({ frames := 7, cells := 0, slots := 0, locals := 162 } : Room) s m ([.ref (ad 0), .int x] : List Value).toArray below meth c H locs 0 0 (MQ below (va_Qi (S := Unit) (fun rr _ => rr = if x = 1 ∨ x = 2 then costF (tWa κ) (κ 1) (tSp κ) n x n else 0) (fun _ t => va_P D.1 vwCl (MW D ad (rE (x = 1 ∨ x = 2)) κ) t.heap) (rA 8 ad s.heap.size)) ([.ref (ad 0), .int x] : List Value).toArray s 0 0 (rA 8 ad s.heap.size)) (F0 m 28 ls []) := by
        intro fuel
        induction fuel with
        | zero => intro j sm hj1 hjn hs hfu ls hl; exact absurd (hfu) (by omega)
        | succ fuel ih28 =>
          intro j sm hj1 hjn hs hfu ls hl
          refine lv_iload_n hx hb dX4_costs_28 rfl (lv_at hl 3 rfl) ?_
          refine lv_aload_n hx hb dX4_costs_29 rfl (lv_at hl 0 rfl) ?_
          refine g4_1 hx hb hts i4 hown hS.1 k42 dX4_costs_30 ?_
          refine lv_icmp_ge (tgt := 63) hx hb dX4_costs_33 (by decide) (fun c33 => ?_) (fun c33 => ?_)
          ·
            refine lv_iload_n hx hb dX4_costs_63 rfl (lv_at hl 2 rfl) ?_
            exact s_miret hx hb hr hlk dX4_costs_64 (by rw [if_pos c19, ← hs]; rw [hn9] at c33; have h9 := (nI_leI (a := n) (b := j) (by omega) (by omega)).mp c33; exact cost_e hx0 h9 hjn) hS
          ·
            rw [hn9] at c33
            have hj2 : j < n := by have := mt (nI_leI (a := n) (b := j) (by omega) (by omega)).mpr c33; omega
            have hi60 : j < 60 := by omega
            refine lv_iload_n hx hb dX4_costs_36 rfl (lv_at hl 2 rfl) ?_
            refine lv_aload_n hx hb dX4_costs_37 rfl (lv_at hl 0 rfl) ?_
            refine lv_iload_n hx hb dX4_costs_38 rfl (lv_at hl 3 rfl) ?_
            refine s_ciV (As := [.int (nI j)]) (rest := [.int sm]) ⟨hx, hb, hml, hown, hts⟩ (c_X4_turnOf l D B ad (rE (x = 1 ∨ x = 2)) κ (nI j) j (rfl) (hi60)) (cwV 1 hts gX4_costs_X4_turnOf rfl rfl rfl hdV_X4_turnOf ⟨Nat.le_of_ble_eq_true rfl, Nat.le_of_ble_eq_true rfl⟩) (sPV hS.1 (ci := 4) (q0 := 0) rfl rfl) rfl hl.1 rfl (Nat.le_of_ble_eq_true rfl) dX4_costs_39 ⟨Nat.le_of_ble_eq_true rfl, Nat.le_of_ble_eq_true rfl⟩ ?_
            refine lv_iload_n hx hb dX4_costs_42 rfl (lv_at hl 1 rfl) ?_
            refine lv_icmp_ne (tgt := 54) hx hb dX4_costs_43 (by decide) (fun c43 => ?_) (fun c43 => ?_)
            ·
              refine lv_iconst (v := 0) hx hb dX4_costs_54 (by decide +kernel) ?_
              refine lv_iadd hx hb dX4_costs_55 ?_
              refine lv_istore_n (lv' := [(2, .int (sm + 0)), (0, .ref (ad 0)), (1, .int x), (3, .int (nI j))]) hx hb dX4_costs_56 rfl hl (by decide) rfl (fun ls hl => ?_)
              refine lv_iinc (v := nI (j + 1)) (lv' := [(3, .int (nI (j + 1))), (2, .int (sm + 0)), (0, .ref (ad 0)), (1, .int x)]) hx hb dX4_costs_57 hl (k := 3) rfl (nI_1 j) (by decide) rfl (fun ls hl => ?_)
              refine lv_goto (tgt := 28) hx hb dX4_costs_60 (by decide) ?_
              exact ih28 (j + 1) _ (by omega) (by omega) (cost_n2 hs c43) (by omega) _ (lv_sub hl [2, 3, 1, 0] rfl)
            ·
              refine lv_aload_n hx hb dX4_costs_46 rfl (lv_at hl 0 rfl) ?_
              refine lv_iload_n hx hb dX4_costs_47 rfl (lv_at hl 3 rfl) ?_
              refine s_ciV (As := [.int (nI j)]) (rest := [.int sm]) ⟨hx, hb, hml, hown, hts⟩ (c_X4_costOf l D B ad (rE (x = 1 ∨ x = 2)) κ (nI j) j n (by assumption) (by assumption) (rfl) (hj2) (hj1)) (cwV 1 hts gX4_costs_X4_costOf rfl rfl rfl hdV_X4_costOf ⟨Nat.le_of_ble_eq_true rfl, Nat.le_of_ble_eq_true rfl⟩) (sPV hS.1 (ci := 4) (q0 := 0) rfl rfl) rfl hl.1 rfl (Nat.le_of_ble_eq_true rfl) dX4_costs_48 ⟨Nat.le_of_ble_eq_true rfl, Nat.le_of_ble_eq_true rfl⟩ ?_
              refine lv_goto (tgt := 55) hx hb dX4_costs_51 (by decide) ?_
              refine lv_iadd hx hb dX4_costs_55 ?_
              refine lv_istore_n (lv' := [(2, .int (sm + (slowS (κ 1) (tSp κ) (tSp κ (j - 1)) j (endF n j - j)))), (0, .ref (ad 0)), (1, .int x), (3, .int (nI j))]) hx hb dX4_costs_56 rfl hl (by decide) rfl (fun ls hl => ?_)
              refine lv_iinc (v := nI (j + 1)) (lv' := [(3, .int (nI (j + 1))), (2, .int (sm + (slowS (κ 1) (tSp κ) (tSp κ (j - 1)) j (endF n j - j)))), (0, .ref (ad 0)), (1, .int x)]) hx hb dX4_costs_57 hl (k := 3) rfl (nI_1 j) (by decide) rfl (fun ls hl => ?_)
              refine lv_goto (tgt := 28) hx hb dX4_costs_60 (by decide) ?_
              exact ih28 (j + 1) _ (by omega) (by omega) (cost_y2 hs c43 hx0) (by omega) _ (lv_sub hl [2, 3, 1, 0] rfl)
      exact loop28 (n + 2) 1 0 (by omega) (by omega) (cost_1 hx0) (by omega) _ (lv_sub hl [2, 3, 1, 0] rfl)
    ·
      replace c19 := bI_n0.mp c19
      have c19 := mt rE_0.mpr c19
      refine lv_iconst (v := 0) hx hb dX4_costs_22 (by decide +kernel) ?_
      exact s_miret hx hb hr hlk dX4_costs_23 ((if_neg c19).symm) hS
  refine lv_iload_n hx hb dX4_costs_1 rfl (lv_at hl 1 rfl) ?_
  refine lv_iconst (v := 1) hx hb dX4_costs_2 (by decide +kernel) ?_
  refine lv_icmp_eq (tgt := 11) hx hb dX4_costs_3 (by decide) (fun c3 => ?_) (fun c3 => ?_)
  ·
    refine lv_iconst (v := 0) hx hb dX4_costs_11 (by decide +kernel) ?_
    refine lv_goto (tgt := 16) hx hb dX4_costs_12 (by decide) ?_
    exact j16 0 (rE_a (Or.inl c3)) _ (lv_sub hl [0, 1] rfl)
  ·
    refine lv_iload_n hx hb dX4_costs_6 rfl (lv_at hl 1 rfl) ?_
    refine lv_iconst (v := 2) hx hb dX4_costs_7 (by decide +kernel) ?_
    refine lv_icmp_ne (tgt := 15) hx hb dX4_costs_8 (by decide) (fun c8 => ?_) (fun c8 => ?_)
    ·
      refine lv_iconst (v := 1) hx hb dX4_costs_15 (by decide +kernel) ?_
      exact j16 1 (rE_b (fun q => q.elim c3 c8)) _ (lv_sub hl [0, 1] rfl)
    ·
      refine lv_iconst (v := 0) hx hb dX4_costs_11 (by decide +kernel) ?_
      refine lv_goto (tgt := 16) hx hb dX4_costs_12 (by decide) ?_
      exact j16 0 (rE_a (Or.inr c8)) _ (lv_sub hl [0, 1] rfl)
set_option maxRecDepth 100000 in
set_option maxHeartbeats 4000000 in
theorem c_X4_vaneShown (l : Launch) (D : sD) (B : Nat) (ad : Nat → Nat) (rf : Int32) (κ : sQ) (sz : Nat) (n : Nat) (hn9 : κ 0 0 = nI n) (hn60 : n ≤ 60) : Met l yX4_vaneShown wsX4_vaneShown ({ frames := 6, cells := 0, slots := 0, locals := 139 } : Room) (sPz D B (MW D ad rf κ) sz ([.ref (ad 0)] : List Value)) (va_Qi (S := Unit) (fun rr _ => rr = vnM (tWa κ) n) (fun _ t => va_P D.1 vwCl (MW D ad 0 κ) t.heap) (rA 8 ad sz)) 0 0 (rA 8 ad sz) := by
  refine s_head (cc := cX4_vaneShown) (maxL := 8) (ret := (some .int)) (by decide +kernel) rfl (Nat.le_of_ble_eq_true rfl) ?_
  intro p e s m below meth c hx hb hr hlk hml hown hnm hts hB0 ls hl
  obtain ⟨hsz, hJ⟩ := hB0
  have hown : s.vm.findClass RX4 = some m.cls := hown
  have hl : lv_has ls 8 [(0, .ref (ad 0))] := hl
  subst hsz
  have hS := sS.start hJ (MW_adr D ad rf κ)
  have k35 : (Cond.fieldLink RX4 35 "SailLogModel" "refusal" "I").before ([.ref (ad 0)] : List Value).toArray s = true := hts _ (by decide +kernel)
  have i4 : ∀ w ∈ wsX40, w ∈ wsX4_vaneShown := by decide +kernel
  have k42 : (Cond.fieldLink RX4 42 "SailLogModel" "entries" "I").before ([.ref (ad 0)] : List Value).toArray s = true := hts _ (by decide +kernel)
  refine lv_aload_n hx hb dX4_vaneShown_0 rfl (lv_at hl 0 rfl) ?_
  refine lv_iconst (v := 0) hx hb dX4_vaneShown_1 (by decide +kernel) ?_
  refine p4_0 hx hb hts i4 hown hS k35 dX4_vaneShown_2 (fun H locs hS => ?_)
  refine lv_iconst (v := 0) hx hb dX4_vaneShown_5 (by decide +kernel) ?_
  refine lv_istore_n (lv' := [(1, .int 0), (0, .ref (ad 0))]) hx hb dX4_vaneShown_6 rfl hl (by decide) rfl (fun ls hl => ?_)
  refine lv_iconst (v := 0) hx hb dX4_vaneShown_7 (by decide +kernel) ?_
  refine lv_istore_n (lv' := [(2, .int 0), (1, .int 0), (0, .ref (ad 0))]) hx hb dX4_vaneShown_8 rfl hl (by decide) rfl (fun ls hl => ?_)
  refine lv_iconst (v := 0) hx hb dX4_vaneShown_9 (by decide +kernel) ?_
  refine lv_istore_n (lv' := [(3, .int 0), (2, .int 0), (1, .int 0), (0, .ref (ad 0))]) hx hb dX4_vaneShown_10 rfl hl (by decide) rfl (fun ls hl => ?_)
  refine lv_iconst (v := 0) hx hb dX4_vaneShown_11 (by decide +kernel) ?_
  refine lv_istore (lv' := [(4, .int 0), (3, .int 0), (2, .int 0), (1, .int 0), (0, .ref (ad 0))]) hx hb dX4_vaneShown_12 hl (by decide) rfl (fun ls hl => ?_)
  refine lv_iconst (v := 0) hx hb dX4_vaneShown_14 (by decide +kernel) ?_
  refine lv_istore (lv' := [(5, .int 0), (4, .int 0), (3, .int 0), (2, .int 0), (1, .int 0), (0, .ref (ad 0))]) hx hb dX4_vaneShown_15 hl (by decide) rfl (fun ls hl => ?_)
  have loop17 : ∀ (fuel : Nat) (j : Nat) (p9 : Int32) (b9 : Int32) (sp9 : Int32) (sb9 : Int32) (hj : j ≤ n) (hp : nI (ctO (tWa κ) 2 j) = p9) (hb9 : nI (ctO (tWa κ) 1 j) = b9) (hsp : smO (tWa κ) 2 j = sp9) (hsb : smO (tWa κ) 1 j = sb9) (hfu : n + 1 ≤ j + fuel) (ls : Array Slot), lv_has ls 8 [(0, .ref (ad 0)), (1, .int p9), (2, .int b9), (3, .int sp9), (4, .int sb9), (5, .int (nI j))] → W p l e ({ frames := 6, cells := 0, slots := 0, locals := 139 } : Room) s m ([.ref (ad 0)] : List Value).toArray below meth c H locs 0 0 (MQ below (va_Qi (S := Unit) (fun rr _ => rr = vnM (tWa κ) n) (fun _ t => va_P D.1 vwCl (MW D ad 0 κ) t.heap) (rA 8 ad s.heap.size)) ([.ref (ad 0)] : List Value).toArray s 0 0 (rA 8 ad s.heap.size)) (F0 m 17 ls []) := by
    intro fuel
    induction fuel with
    | zero => intro j p9 b9 sp9 sb9 hj hp hb9 hsp hsb hfu ls hl; exact absurd (hfu) (by omega)
    | succ fuel ih17 =>
      intro j p9 b9 sp9 sb9 hj hp hb9 hsp hsb hfu ls hl
      refine lv_iload hx hb dX4_vaneShown_17 (lv_at hl 5 rfl) ?_
      refine lv_aload_n hx hb dX4_vaneShown_19 rfl (lv_at hl 0 rfl) ?_
      refine g4_1 hx hb hts i4 hown hS.1 k42 dX4_vaneShown_20 ?_
      refine lv_icmp_ge (tgt := 111) hx hb dX4_vaneShown_23 (by decide) (fun c23 => ?_) (fun c23 => ?_)
      ·
        rw [hn9] at c23
        have hjn : n = j := by have := (nI_leI (a := n) (b := j) (by omega) (by omega)).mp c23; omega
        refine lv_iload_n hx hb dX4_vaneShown_111 rfl (lv_at hl 1 rfl) ?_
        refine lv_if_eq (tgt := 119) hx hb dX4_vaneShown_112 (by decide) (fun c112 => ?_) (fun c112 => ?_)
        ·
          refine lv_sipush (v := (-1000)) hx hb dX4_vaneShown_119 (by decide +kernel) ?_
          exact s_miret hx hb hr hlk dX4_vaneShown_122 (by rw [vnM, hjn, if_pos (Or.inl (hp.trans c112))]) hS
        ·
          refine lv_iload_n hx hb dX4_vaneShown_115 rfl (lv_at hl 2 rfl) ?_
          refine lv_if_ne (tgt := 123) hx hb dX4_vaneShown_116 (by decide) (fun c116 => ?_) (fun c116 => ?_)
          ·
            refine lv_iload_n hx hb dX4_vaneShown_123 rfl (lv_at hl 3 rfl) ?_
            refine lv_iload_n hx hb dX4_vaneShown_124 rfl (lv_at hl 1 rfl) ?_
            refine lv_idiv hx hb dX4_vaneShown_125 (c112) ?_
            refine lv_iload hx hb dX4_vaneShown_126 (lv_at hl 4 rfl) ?_
            refine lv_iload_n hx hb dX4_vaneShown_128 rfl (lv_at hl 2 rfl) ?_
            refine lv_idiv hx hb dX4_vaneShown_129 (c116) ?_
            refine lv_isub hx hb dX4_vaneShown_130 ?_
            refine lv_topi (fun tt ett => ?_)
            refine lv_istore (lv' := [(5, .int tt), (0, .ref (ad 0)), (1, .int p9), (2, .int b9), (3, .int sp9), (4, .int sb9)]) hx hb dX4_vaneShown_131 hl (by decide) rfl (fun ls hl => ?_)
            refine lv_iload hx hb dX4_vaneShown_133 (lv_at hl 0 rfl) ?_
            refine lv_if_lt (tgt := 145) hx hb dX4_vaneShown_135 (by decide) (fun c135 => ?_) (fun c135 => ?_)
            ·
              refine lv_iconst (v := 1) hx hb dX4_vaneShown_145 (by decide +kernel) ?_
              refine lv_iload hx hb dX4_vaneShown_146 (lv_at hl 0 rfl) ?_
              refine lv_isub hx hb dX4_vaneShown_148 ?_
              refine lv_iconst (v := 2) hx hb dX4_vaneShown_149 (by decide +kernel) ?_
              refine lv_idiv hx hb dX4_vaneShown_150 (by decide +kernel) ?_
              refine lv_ineg hx hb dX4_vaneShown_151 ?_
              exact s_miret hx hb hr hlk dX4_vaneShown_152 (by rw [vnM, hjn, if_neg (fun q => q.elim (fun q => c112 (hp.symm.trans q)) (fun q => c116 (hb9.symm.trans q))), hp, hb9, hsp, hsb, ← ett, h2M, if_pos c135]) hS
            ·
              refine lv_iload hx hb dX4_vaneShown_138 (lv_at hl 0 rfl) ?_
              refine lv_iconst (v := 2) hx hb dX4_vaneShown_140 (by decide +kernel) ?_
              refine lv_idiv hx hb dX4_vaneShown_141 (by decide +kernel) ?_
              refine lv_goto (tgt := 152) hx hb dX4_vaneShown_142 (by decide) ?_
              exact s_miret hx hb hr hlk dX4_vaneShown_152 (by rw [vnM, hjn, if_neg (fun q => q.elim (fun q => c112 (hp.symm.trans q)) (fun q => c116 (hb9.symm.trans q))), hp, hb9, hsp, hsb, ← ett, h2M, if_neg c135]) hS
          ·
            refine lv_sipush (v := (-1000)) hx hb dX4_vaneShown_119 (by decide +kernel) ?_
            exact s_miret hx hb hr hlk dX4_vaneShown_122 (by rw [vnM, hjn, if_pos (Or.inr (hb9.trans c116))]) hS
      ·
        rw [hn9] at c23
        have hj2 : j < n := by have := mt (nI_leI (a := n) (b := j) (by omega) (by omega)).mpr c23; omega
        have hi60 : j < 60 := by omega
        refine lv_aload_n hx hb dX4_vaneShown_26 rfl (lv_at hl 0 rfl) ?_
        refine lv_iload hx hb dX4_vaneShown_27 (lv_at hl 5 rfl) ?_
        refine s_ciV (As := [.int (nI j)]) (rest := []) ⟨hx, hb, hml, hown, hts⟩ (c_X4_sideOf l D B ad 0 κ (nI j) j (rfl) (hi60)) (cwV 1 hts gX4_vaneShown_X4_sideOf rfl rfl rfl hdV_X4_sideOf ⟨Nat.le_of_ble_eq_true rfl, Nat.le_of_ble_eq_true rfl⟩) (sPV hS.1 (ci := 4) (q0 := 0) rfl rfl) rfl hl.1 rfl (Nat.le_of_ble_eq_true rfl) dX4_vaneShown_29 ⟨Nat.le_of_ble_eq_true rfl, Nat.le_of_ble_eq_true rfl⟩ ?_
        refine lv_istore (lv' := [(6, .int (sdI (tWa κ j))), (0, .ref (ad 0)), (1, .int p9), (2, .int b9), (3, .int sp9), (4, .int sb9), (5, .int (nI j))]) hx hb dX4_vaneShown_32 hl (by decide) rfl (fun ls hl => ?_)
        refine lv_aload_n hx hb dX4_vaneShown_34 rfl (lv_at hl 1 rfl) ?_
        refine lv_iload hx hb dX4_vaneShown_35 (lv_at hl 6 rfl) ?_
        refine s_ciV (As := [.int (nI j)]) (rest := []) ⟨hx, hb, hml, hown, hts⟩ (c_X4_angleOf l D B ad 0 κ (nI j) j (rfl) (hi60)) (cwV 1 hts gX4_vaneShown_X4_angleOf rfl rfl rfl hdV_X4_angleOf ⟨Nat.le_of_ble_eq_true rfl, Nat.le_of_ble_eq_true rfl⟩) (sPV hS.1 (ci := 4) (q0 := 0) rfl rfl) rfl hl.1 rfl (Nat.le_of_ble_eq_true rfl) dX4_vaneShown_37 ⟨Nat.le_of_ble_eq_true rfl, Nat.le_of_ble_eq_true rfl⟩ ?_
        refine s_ciS (As := [.int (tWa κ j)]) (rest := []) ⟨hx, hb, hml, hown, hts⟩ (c_X4_opened l (tWa κ j) ) (va_cwS 1 hts gX4_vaneShown_X4_opened rfl rfl rfl hdS_X4_opened ⟨Nat.le_of_ble_eq_true rfl, Nat.le_of_ble_eq_true rfl⟩) sPS0 rfl hl.1 rfl (Nat.le_of_ble_eq_true rfl) dX4_vaneShown_40 ⟨Nat.le_of_ble_eq_true rfl, Nat.le_of_ble_eq_true rfl⟩ ?_
        refine lv_istore (lv' := [(7, .int (opn (tWa κ j))), (6, .int (sdI (tWa κ j))), (0, .ref (ad 0)), (1, .int p9), (2, .int b9), (3, .int sp9), (4, .int sb9), (5, .int (nI j))]) hx hb dX4_vaneShown_43 hl (by decide) rfl (fun ls hl => ?_)
        refine lv_iload_n hx hb dX4_vaneShown_45 rfl (lv_at hl 3 rfl) ?_
        have j57 : ∀ (v9 : Int32) (hv9 : v9 = if sdI (tWa κ j) = 2 then 1 else 0) (ls : Array Slot), lv_has ls 8 [(7, .int (opn (tWa κ j))), (6, .int (sdI (tWa κ j))), (0, .ref (ad 0)), (1, .int p9), (2, .int b9), (3, .int sp9), (4, .int sb9), (5, .int (nI j))] → W p l e ({ frames := 6, cells := 0, slots := 0, locals := 139 } : Room) s m ([.ref (ad 0)] : List Value).toArray below meth c H locs 0 0 (MQ below (va_Qi (S := Unit) (fun rr _ => rr = vnM (tWa κ) n) (fun _ t => va_P D.1 vwCl (MW D ad 0 κ) t.heap) (rA 8 ad s.heap.size)) ([.ref (ad 0)] : List Value).toArray s 0 0 (rA 8 ad s.heap.size)) (F0 m 57 ls [.int v9, .int p9]) := by
          intro v9 hv9 ls hl
          subst hv9
          refine lv_iadd hx hb dX4_vaneShown_57 ?_
          refine lv_istore_n (lv' := [(1, .int (p9 + (if sdI (tWa κ j) = 2 then 1 else 0))), (7, .int (opn (tWa κ j))), (6, .int (sdI (tWa κ j))), (0, .ref (ad 0)), (2, .int b9), (3, .int sp9), (4, .int sb9), (5, .int (nI j))]) hx hb dX4_vaneShown_58 rfl hl (by decide) rfl (fun ls hl => ?_)
          refine lv_iload_n hx hb dX4_vaneShown_59 rfl (lv_at hl 4 rfl) ?_
          have j71 : ∀ (v9 : Int32) (hv9 : v9 = if sdI (tWa κ j) = 1 then 1 else 0) (ls : Array Slot), lv_has ls 8 [(1, .int (p9 + (if sdI (tWa κ j) = 2 then 1 else 0))), (7, .int (opn (tWa κ j))), (6, .int (sdI (tWa κ j))), (0, .ref (ad 0)), (2, .int b9), (3, .int sp9), (4, .int sb9), (5, .int (nI j))] → W p l e ({ frames := 6, cells := 0, slots := 0, locals := 139 } : Room) s m ([.ref (ad 0)] : List Value).toArray below meth c H locs 0 0 (MQ below (va_Qi (S := Unit) (fun rr _ => rr = vnM (tWa κ) n) (fun _ t => va_P D.1 vwCl (MW D ad 0 κ) t.heap) (rA 8 ad s.heap.size)) ([.ref (ad 0)] : List Value).toArray s 0 0 (rA 8 ad s.heap.size)) (F0 m 71 ls [.int v9, .int b9]) := by
            intro v9 hv9 ls hl
            subst hv9
            refine lv_iadd hx hb dX4_vaneShown_71 ?_
            refine lv_istore_n (lv' := [(2, .int (b9 + (if sdI (tWa κ j) = 1 then 1 else 0))), (1, .int (p9 + (if sdI (tWa κ j) = 2 then 1 else 0))), (7, .int (opn (tWa κ j))), (6, .int (sdI (tWa κ j))), (0, .ref (ad 0)), (3, .int sp9), (4, .int sb9), (5, .int (nI j))]) hx hb dX4_vaneShown_72 rfl hl (by decide) rfl (fun ls hl => ?_)
            refine lv_iload_n hx hb dX4_vaneShown_73 rfl (lv_at hl 5 rfl) ?_
            have j86 : ∀ (v9 : Int32) (hv9 : v9 = if sdI (tWa κ j) = 2 then opn (tWa κ j) else 0) (ls : Array Slot), lv_has ls 8 [(2, .int (b9 + (if sdI (tWa κ j) = 1 then 1 else 0))), (1, .int (p9 + (if sdI (tWa κ j) = 2 then 1 else 0))), (7, .int (opn (tWa κ j))), (6, .int (sdI (tWa κ j))), (0, .ref (ad 0)), (3, .int sp9), (4, .int sb9), (5, .int (nI j))] → W p l e ({ frames := 6, cells := 0, slots := 0, locals := 139 } : Room) s m ([.ref (ad 0)] : List Value).toArray below meth c H locs 0 0 (MQ below (va_Qi (S := Unit) (fun rr _ => rr = vnM (tWa κ) n) (fun _ t => va_P D.1 vwCl (MW D ad 0 κ) t.heap) (rA 8 ad s.heap.size)) ([.ref (ad 0)] : List Value).toArray s 0 0 (rA 8 ad s.heap.size)) (F0 m 86 ls [.int v9, .int sp9]) := by
              intro v9 hv9 ls hl
              subst hv9
              refine lv_iadd hx hb dX4_vaneShown_86 ?_
              refine lv_istore_n (lv' := [(3, .int (sp9 + (if sdI (tWa κ j) = 2 then opn (tWa κ j) else 0))), (2, .int (b9 + (if sdI (tWa κ j) = 1 then 1 else 0))), (1, .int (p9 + (if sdI (tWa κ j) = 2 then 1 else 0))), (7, .int (opn (tWa κ j))), (6, .int (sdI (tWa κ j))), (0, .ref (ad 0)), (4, .int sb9), (5, .int (nI j))]) hx hb dX4_vaneShown_87 rfl hl (by decide) rfl (fun ls hl => ?_)
              refine lv_iload hx hb dX4_vaneShown_88 (lv_at hl 6 rfl) ?_
              have j102 : ∀ (v9 : Int32) (hv9 : v9 = if sdI (tWa κ j) = 1 then opn (tWa κ j) else 0) (ls : Array Slot), lv_has ls 8 [(3, .int (sp9 + (if sdI (tWa κ j) = 2 then opn (tWa κ j) else 0))), (2, .int (b9 + (if sdI (tWa κ j) = 1 then 1 else 0))), (1, .int (p9 + (if sdI (tWa κ j) = 2 then 1 else 0))), (7, .int (opn (tWa κ j))), (6, .int (sdI (tWa κ j))), (0, .ref (ad 0)), (4, .int sb9), (5, .int (nI j))] → W p l e ({ frames := 6, cells := 0, slots := 0, locals := 139 } : Room) s m ([.ref (ad 0)] : List Value).toArray below meth c H locs 0 0 (MQ below (va_Qi (S := Unit) (fun rr _ => rr = vnM (tWa κ) n) (fun _ t => va_P D.1 vwCl (MW D ad 0 κ) t.heap) (rA 8 ad s.heap.size)) ([.ref (ad 0)] : List Value).toArray s 0 0 (rA 8 ad s.heap.size)) (F0 m 102 ls [.int v9, .int sb9]) := by
                intro v9 hv9 ls hl
                subst hv9
                refine lv_iadd hx hb dX4_vaneShown_102 ?_
                refine lv_istore (lv' := [(4, .int (sb9 + (if sdI (tWa κ j) = 1 then opn (tWa κ j) else 0))), (3, .int (sp9 + (if sdI (tWa κ j) = 2 then opn (tWa κ j) else 0))), (2, .int (b9 + (if sdI (tWa κ j) = 1 then 1 else 0))), (1, .int (p9 + (if sdI (tWa κ j) = 2 then 1 else 0))), (7, .int (opn (tWa κ j))), (6, .int (sdI (tWa κ j))), (0, .ref (ad 0)), (5, .int (nI j))]) hx hb dX4_vaneShown_103 hl (by decide) rfl (fun ls hl => ?_)
                refine lv_iinc (v := nI (j + 1)) (lv' := [(5, .int (nI (j + 1))), (4, .int (sb9 + (if sdI (tWa κ j) = 1 then opn (tWa κ j) else 0))), (3, .int (sp9 + (if sdI (tWa κ j) = 2 then opn (tWa κ j) else 0))), (2, .int (b9 + (if sdI (tWa κ j) = 1 then 1 else 0))), (1, .int (p9 + (if sdI (tWa κ j) = 2 then 1 else 0))), (7, .int (opn (tWa κ j))), (6, .int (sdI (tWa κ j))), (0, .ref (ad 0))]) hx hb dX4_vaneShown_105 hl (k := 7) rfl (nI_1 j) (by decide) rfl (fun ls hl => ?_)
                refine lv_goto (tgt := 17) hx hb dX4_vaneShown_108 (by decide) ?_
                exact ih17 (j + 1) _ _ _ _ (by omega) (ct_c hp rfl) (ct_c hb9 rfl) (sm_c hsp rfl) (sm_c hsb rfl) (by omega) _ (lv_sub hl [7, 4, 3, 2, 1, 0] rfl)
              refine lv_iload hx hb dX4_vaneShown_90 (lv_at hl 4 rfl) ?_
              refine lv_iconst (v := 1) hx hb dX4_vaneShown_92 (by decide +kernel) ?_
              refine lv_icmp_ne (tgt := 101) hx hb dX4_vaneShown_93 (by decide) (fun c93 => ?_) (fun c93 => ?_)
              ·
                refine lv_iconst (v := 0) hx hb dX4_vaneShown_101 (by decide +kernel) ?_
                exact j102 0 ((if_neg c93).symm) _ (lv_sub hl [0, 1, 2, 3, 4, 5, 6, 7] rfl)
              ·
                refine lv_iload hx hb dX4_vaneShown_96 (lv_at hl 3 rfl) ?_
                refine lv_goto (tgt := 102) hx hb dX4_vaneShown_98 (by decide) ?_
                exact j102 (opn (tWa κ j)) ((if_pos c93).symm) _ (lv_sub hl [0, 1, 2, 3, 4, 5, 6, 7] rfl)
            refine lv_iload hx hb dX4_vaneShown_74 (lv_at hl 3 rfl) ?_
            refine lv_iconst (v := 2) hx hb dX4_vaneShown_76 (by decide +kernel) ?_
            refine lv_icmp_ne (tgt := 85) hx hb dX4_vaneShown_77 (by decide) (fun c77 => ?_) (fun c77 => ?_)
            ·
              refine lv_iconst (v := 0) hx hb dX4_vaneShown_85 (by decide +kernel) ?_
              exact j86 0 ((if_neg c77).symm) _ (lv_sub hl [0, 1, 2, 3, 4, 5, 6, 7] rfl)
            ·
              refine lv_iload hx hb dX4_vaneShown_80 (lv_at hl 2 rfl) ?_
              refine lv_goto (tgt := 86) hx hb dX4_vaneShown_82 (by decide) ?_
              exact j86 (opn (tWa κ j)) ((if_pos c77).symm) _ (lv_sub hl [0, 1, 2, 3, 4, 5, 6, 7] rfl)
          refine lv_iload hx hb dX4_vaneShown_60 (lv_at hl 2 rfl) ?_
          refine lv_iconst (v := 1) hx hb dX4_vaneShown_62 (by decide +kernel) ?_
          refine lv_icmp_ne (tgt := 70) hx hb dX4_vaneShown_63 (by decide) (fun c63 => ?_) (fun c63 => ?_)
          ·
            refine lv_iconst (v := 0) hx hb dX4_vaneShown_70 (by decide +kernel) ?_
            exact j71 0 ((if_neg c63).symm) _ (lv_sub hl [0, 1, 2, 3, 4, 5, 6, 7] rfl)
          ·
            refine lv_iconst (v := 1) hx hb dX4_vaneShown_66 (by decide +kernel) ?_
            refine lv_goto (tgt := 71) hx hb dX4_vaneShown_67 (by decide) ?_
            exact j71 1 ((if_pos c63).symm) _ (lv_sub hl [0, 1, 2, 3, 4, 5, 6, 7] rfl)
        refine lv_iload hx hb dX4_vaneShown_46 (lv_at hl 1 rfl) ?_
        refine lv_iconst (v := 2) hx hb dX4_vaneShown_48 (by decide +kernel) ?_
        refine lv_icmp_ne (tgt := 56) hx hb dX4_vaneShown_49 (by decide) (fun c49 => ?_) (fun c49 => ?_)
        ·
          refine lv_iconst (v := 0) hx hb dX4_vaneShown_56 (by decide +kernel) ?_
          exact j57 0 ((if_neg c49).symm) _ (lv_sub hl [0, 1, 2, 3, 4, 5, 6, 7] rfl)
        ·
          refine lv_iconst (v := 1) hx hb dX4_vaneShown_52 (by decide +kernel) ?_
          refine lv_goto (tgt := 57) hx hb dX4_vaneShown_53 (by decide) ?_
          exact j57 1 ((if_pos c49).symm) _ (lv_sub hl [0, 1, 2, 3, 4, 5, 6, 7] rfl)
  exact loop17 (n + 1) 0 0 0 0 0 (by omega) rfl rfl rfl rfl (by omega) _ (lv_sub hl [5, 4, 3, 2, 1, 0] rfl)
set_option maxRecDepth 100000 in
set_option maxHeartbeats 4000000 in
theorem c_X4_setFaults (l : Launch) (D : sD) (B : Nat) (ad : Nat → Nat) (rf : Int32) (κ : sQ) (sz : Nat) (f : Int32) (c1 : Int32) (v : Int32) : Met l yX4_setFaults wsX4_setFaults ({ frames := 1, cells := 0, slots := 0, locals := 22 } : Room) (sPz D B (MW D ad rf κ) sz ([.ref (ad 0), .int f, .int c1, .int v] : List Value)) (va_Qi (S := Unit) (fun rr _ => rr = if (500 ≤ f ∧ f ≤ 1500) ∧ ((-20) ≤ c1 ∧ c1 ≤ 20) ∧ ((-20) ≤ v ∧ v ≤ 20) then κ 0 1 else 0) (fun _ t => va_P D.1 vwCl (MW D ad (rE ((500 ≤ f ∧ f ≤ 1500) ∧ ((-20) ≤ c1 ∧ c1 ≤ 20) ∧ ((-20) ≤ v ∧ v ≤ 20))) (if (500 ≤ f ∧ f ≤ 1500) ∧ ((-20) ≤ c1 ∧ c1 ≤ 20) ∧ ((-20) ≤ v ∧ v ≤ 20) then tF κ f c1 v else κ)) t.heap) (rA 8 ad sz)) 0 0 (rA 8 ad sz) := by
  refine s_head (cc := cX4_setFaults) (maxL := 5) (ret := (some .int)) (by decide +kernel) rfl (Nat.le_of_ble_eq_true rfl) ?_
  intro p e s m below meth c hx hb hr hlk hml hown hnm hts hB0 ls hl
  obtain ⟨hsz, hJ⟩ := hB0
  have hown : s.vm.findClass RX4 = some m.cls := hown
  have hl : lv_has ls 5 [(0, .ref (ad 0)), (1, .int f), (2, .int c1), (3, .int v)] := hl
  subst hsz
  have hS := sS.start hJ (MW_adr D ad rf κ)
  have k25 : (Cond.fieldLink RX4 25 "SailLogModel" "factor" "I").before ([.ref (ad 0), .int f, .int c1, .int v] : List Value).toArray s = true := hts _ (by decide +kernel)
  have i4 : ∀ w ∈ wsX40, w ∈ wsX4_setFaults := by decide +kernel
  have k49 : (Cond.fieldLink RX4 49 "SailLogModel" "compass" "I").before ([.ref (ad 0), .int f, .int c1, .int v] : List Value).toArray s = true := hts _ (by decide +kernel)
  have k52 : (Cond.fieldLink RX4 52 "SailLogModel" "vane" "I").before ([.ref (ad 0), .int f, .int c1, .int v] : List Value).toArray s = true := hts _ (by decide +kernel)
  refine lv_aload_n hx hb dX4_setFaults_0 rfl (lv_at hl 0 rfl) ?_
  have j41 : ∀ (v9 : Int32) (hv9 : v9 = rE ((500 ≤ f ∧ f ≤ 1500) ∧ ((-20) ≤ c1 ∧ c1 ≤ 20) ∧ ((-20) ≤ v ∧ v ≤ 20))) (ls : Array Slot), lv_has ls 5 [(0, .ref (ad 0)), (1, .int f), (2, .int c1), (3, .int v)] → W p l e ({ frames := 1, cells := 0, slots := 0, locals := 22 } : Room) s m ([.ref (ad 0), .int f, .int c1, .int v] : List Value).toArray below meth c s.heap [] 0 0 (MQ below (va_Qi (S := Unit) (fun rr _ => rr = if (500 ≤ f ∧ f ≤ 1500) ∧ ((-20) ≤ c1 ∧ c1 ≤ 20) ∧ ((-20) ≤ v ∧ v ≤ 20) then κ 0 1 else 0) (fun _ t => va_P D.1 vwCl (MW D ad (rE ((500 ≤ f ∧ f ≤ 1500) ∧ ((-20) ≤ c1 ∧ c1 ≤ 20) ∧ ((-20) ≤ v ∧ v ≤ 20))) (if (500 ≤ f ∧ f ≤ 1500) ∧ ((-20) ≤ c1 ∧ c1 ≤ 20) ∧ ((-20) ≤ v ∧ v ≤ 20) then tF κ f c1 v else κ)) t.heap) (rA 8 ad s.heap.size)) ([.ref (ad 0), .int f, .int c1, .int v] : List Value).toArray s 0 0 (rA 8 ad s.heap.size)) (F0 m 41 ls [.int v9, .ref (ad 0)]) := by
    intro v9 hv9 ls hl
    subst hv9
    refine s_miV (wd' := (MW D ad (rE ((500 ≤ f ∧ f ≤ 1500) ∧ ((-20) ≤ c1 ∧ c1 ≤ 20) ∧ ((-20) ≤ v ∧ v ≤ 20))) κ)) (As := [.int (rE ((500 ≤ f ∧ f ≤ 1500) ∧ ((-20) ≤ c1 ∧ c1 ≤ 20) ∧ ((-20) ≤ v ∧ v ≤ 20)))]) (rest := []) ⟨hx, hb, hml, hown, hts⟩ (c_X4_refused l D B ad rf κ s.heap.size (rE ((500 ≤ f ∧ f ≤ 1500) ∧ ((-20) ≤ c1 ∧ c1 ≤ 20) ∧ ((-20) ≤ v ∧ v ≤ 20))) ) (cwV 1 hts gX4_setFaults_X4_refused rfl rfl rfl hdV_X4_refused ⟨Nat.le_of_ble_eq_true rfl, Nat.le_of_ble_eq_true rfl⟩) (sPVz hS.1 (ci := 4) (q0 := 0) rfl rfl) hS (MW_adr _ _ _ _) (MW_adr _ _ _ _) rfl hl.1 rfl (Nat.le_of_ble_eq_true rfl) dX4_setFaults_41 ⟨Nat.le_of_ble_eq_true rfl, Nat.le_of_ble_eq_true rfl⟩ (fun H locs hS => ?_)
    refine lv_if_eq (tgt := 49) hx hb dX4_setFaults_44 (by decide) (fun c44 => ?_) (fun c44 => ?_)
    ·
      replace c44 := bI_0.mp c44
      have c44 := rE_0.mp (Decidable.not_not.mp c44)
      refine lv_aload_n hx hb dX4_setFaults_49 rfl (lv_at hl 0 rfl) ?_
      refine g4_7 hx hb hts i4 hown hS.1 k25 dX4_setFaults_50 ?_
      refine lv_istore (lv' := [(4, .int (κ 0 1)), (0, .ref (ad 0)), (1, .int f), (2, .int c1), (3, .int v)]) hx hb dX4_setFaults_53 hl (by decide) rfl (fun ls hl => ?_)
      refine lv_aload_n hx hb dX4_setFaults_55 rfl (lv_at hl 1 rfl) ?_
      refine lv_iload_n hx hb dX4_setFaults_56 rfl (lv_at hl 2 rfl) ?_
      refine p4_7 hx hb hts i4 hown hS k25 dX4_setFaults_57 (fun H locs hS => ?_)
      refine lv_aload_n hx hb dX4_setFaults_60 rfl (lv_at hl 1 rfl) ?_
      refine lv_iload_n hx hb dX4_setFaults_61 rfl (lv_at hl 3 rfl) ?_
      refine p4_8 hx hb hts i4 hown hS k49 dX4_setFaults_62 (fun H locs hS => ?_)
      refine lv_aload_n hx hb dX4_setFaults_65 rfl (lv_at hl 1 rfl) ?_
      refine lv_iload_n hx hb dX4_setFaults_66 rfl (lv_at hl 4 rfl) ?_
      refine p4_9 hx hb hts i4 hown hS k52 dX4_setFaults_67 (fun H locs hS => ?_)
      refine lv_iload hx hb dX4_setFaults_70 (lv_at hl 0 rfl) ?_
      rw [show (MW D ad (rE ((500 ≤ f ∧ f ≤ 1500) ∧ ((-20) ≤ c1 ∧ c1 ≤ 20) ∧ ((-20) ≤ v ∧ v ≤ 20))) (kset (kset (kset κ 0 1 f) 0 2 c1) 0 3 v)) = (MW D ad (rE ((500 ≤ f ∧ f ≤ 1500) ∧ ((-20) ≤ c1 ∧ c1 ≤ 20) ∧ ((-20) ≤ v ∧ v ≤ 20))) (if (500 ≤ f ∧ f ≤ 1500) ∧ ((-20) ≤ c1 ∧ c1 ≤ 20) ∧ ((-20) ≤ v ∧ v ≤ 20) then tF κ f c1 v else κ)) from by rw [if_pos c44]; rfl] at hS
      exact s_miret hx hb hr hlk dX4_setFaults_72 ((if_pos c44).symm) hS
    ·
      replace c44 := bI_n0.mp c44
      have c44 := mt rE_0.mpr c44
      refine lv_iconst (v := 0) hx hb dX4_setFaults_47 (by decide +kernel) ?_
      rw [show (MW D ad (rE ((500 ≤ f ∧ f ≤ 1500) ∧ ((-20) ≤ c1 ∧ c1 ≤ 20) ∧ ((-20) ≤ v ∧ v ≤ 20))) κ) = (MW D ad (rE ((500 ≤ f ∧ f ≤ 1500) ∧ ((-20) ≤ c1 ∧ c1 ≤ 20) ∧ ((-20) ≤ v ∧ v ≤ 20))) (if (500 ≤ f ∧ f ≤ 1500) ∧ ((-20) ≤ c1 ∧ c1 ≤ 20) ∧ ((-20) ≤ v ∧ v ≤ 20) then tF κ f c1 v else κ)) from by rw [if_neg c44]] at hS
      exact s_miret hx hb hr hlk dX4_setFaults_48 ((if_neg c44).symm) hS
  refine lv_iload_n hx hb dX4_setFaults_1 rfl (lv_at hl 1 rfl) ?_
  refine lv_sipush (v := 500) hx hb dX4_setFaults_2 (by decide +kernel) ?_
  refine lv_sipush (v := 1500) hx hb dX4_setFaults_5 (by decide +kernel) ?_
  refine s_ciS (As := [.int f, .int 500, .int 1500]) (rest := [.ref (ad 0)]) ⟨hx, hb, hml, hown, hts⟩ (c_X4_in l f 500 1500 ) (va_cwS 3 hts gX4_setFaults_X4_in rfl rfl rfl hdS_X4_in ⟨Nat.le_of_ble_eq_true rfl, Nat.le_of_ble_eq_true rfl⟩) sPS0 rfl hl.1 rfl (Nat.le_of_ble_eq_true rfl) dX4_setFaults_8 ⟨Nat.le_of_ble_eq_true rfl, Nat.le_of_ble_eq_true rfl⟩ ?_
  refine lv_if_eq (tgt := 40) hx hb dX4_setFaults_11 (by decide) (fun c11 => ?_) (fun c11 => ?_)
  ·
    replace c11 := bI_0.mp c11
    refine lv_iconst (v := 1) hx hb dX4_setFaults_40 (by decide +kernel) ?_
    exact j41 1 (rE_b (fun q => c11 q.1)) _ (lv_sub hl [0, 1, 2, 3] rfl)
  ·
    replace c11 := bI_n0.mp c11
    refine lv_iload_n hx hb dX4_setFaults_14 rfl (lv_at hl 2 rfl) ?_
    refine lv_bipush (v := (-20)) hx hb dX4_setFaults_15 (by decide +kernel) ?_
    refine lv_bipush (v := 20) hx hb dX4_setFaults_17 (by decide +kernel) ?_
    refine s_ciS (As := [.int c1, .int (-20), .int 20]) (rest := [.ref (ad 0)]) ⟨hx, hb, hml, hown, hts⟩ (c_X4_in l c1 (-20) 20 ) (va_cwS 3 hts gX4_setFaults_X4_in rfl rfl rfl hdS_X4_in ⟨Nat.le_of_ble_eq_true rfl, Nat.le_of_ble_eq_true rfl⟩) sPS0 rfl hl.1 rfl (Nat.le_of_ble_eq_true rfl) dX4_setFaults_19 ⟨Nat.le_of_ble_eq_true rfl, Nat.le_of_ble_eq_true rfl⟩ ?_
    refine lv_if_eq (tgt := 40) hx hb dX4_setFaults_22 (by decide) (fun c22 => ?_) (fun c22 => ?_)
    ·
      replace c22 := bI_0.mp c22
      refine lv_iconst (v := 1) hx hb dX4_setFaults_40 (by decide +kernel) ?_
      exact j41 1 (rE_b (fun q => c22 q.2.1)) _ (lv_sub hl [0, 1, 2, 3] rfl)
    ·
      replace c22 := bI_n0.mp c22
      refine lv_iload_n hx hb dX4_setFaults_25 rfl (lv_at hl 3 rfl) ?_
      refine lv_bipush (v := (-20)) hx hb dX4_setFaults_26 (by decide +kernel) ?_
      refine lv_bipush (v := 20) hx hb dX4_setFaults_28 (by decide +kernel) ?_
      refine s_ciS (As := [.int v, .int (-20), .int 20]) (rest := [.ref (ad 0)]) ⟨hx, hb, hml, hown, hts⟩ (c_X4_in l v (-20) 20 ) (va_cwS 3 hts gX4_setFaults_X4_in rfl rfl rfl hdS_X4_in ⟨Nat.le_of_ble_eq_true rfl, Nat.le_of_ble_eq_true rfl⟩) sPS0 rfl hl.1 rfl (Nat.le_of_ble_eq_true rfl) dX4_setFaults_30 ⟨Nat.le_of_ble_eq_true rfl, Nat.le_of_ble_eq_true rfl⟩ ?_
      refine lv_if_eq (tgt := 40) hx hb dX4_setFaults_33 (by decide) (fun c33 => ?_) (fun c33 => ?_)
      ·
        replace c33 := bI_0.mp c33
        refine lv_iconst (v := 1) hx hb dX4_setFaults_40 (by decide +kernel) ?_
        exact j41 1 (rE_b (fun q => c33 q.2.2)) _ (lv_sub hl [0, 1, 2, 3] rfl)
      ·
        replace c33 := bI_n0.mp c33
        refine lv_iconst (v := 0) hx hb dX4_setFaults_36 (by decide +kernel) ?_
        refine lv_goto (tgt := 41) hx hb dX4_setFaults_37 (by decide) ?_
        exact j41 0 (rE_a ⟨c11, c22, c33⟩) _ (lv_sub hl [0, 1, 2, 3] rfl)
set_option maxRecDepth 100000 in
set_option maxHeartbeats 4000000 in
theorem c_X4_setTide (l : Launch) (D : sD) (B : Nat) (ad : Nat → Nat) (rf : Int32) (κ : sQ) (sz : Nat) (h : Int32) (d : Int32) (r9 : Int32) : Met l yX4_setTide wsX4_setTide ({ frames := 1, cells := 0, slots := 0, locals := 22 } : Room) (sPz D B (MW D ad rf κ) sz ([.ref (ad 0), .int h, .int d, .int r9] : List Value)) (va_Qi (S := Unit) (fun rr _ => rr = if (0 ≤ h ∧ h ≤ 23) ∧ ((0 ≤ d ∧ d ≤ 359) ∧ (0 ≤ r9 ∧ r9 ≤ 100)) then κ 7 (iN h) else 0) (fun _ t => va_P D.1 vwCl (MW D ad (rL (0 ≤ h ∧ h ≤ 23) ((0 ≤ d ∧ d ≤ 359) ∧ (0 ≤ r9 ∧ r9 ≤ 100))) (if (0 ≤ h ∧ h ≤ 23) ∧ ((0 ≤ d ∧ d ≤ 359) ∧ (0 ≤ r9 ∧ r9 ≤ 100)) then (kset (kset κ 6 (iN h) d) 7 (iN h) r9) else κ)) t.heap) (rA 8 ad sz)) 0 0 (rA 8 ad sz) := by
  refine s_head (cc := cX4_setTide) (maxL := 5) (ret := (some .int)) (by decide +kernel) rfl (Nat.le_of_ble_eq_true rfl) ?_
  intro p e s m below meth c hx hb hr hlk hml hown hnm hts hB0 ls hl
  obtain ⟨hsz, hJ⟩ := hB0
  have hown : s.vm.findClass RX4 = some m.cls := hown
  have hl : lv_has ls 5 [(0, .ref (ad 0)), (1, .int h), (2, .int d), (3, .int r9)] := hl
  subst hsz
  have hS := sS.start hJ (MW_adr D ad rf κ)
  have k32 : (Cond.fieldLink RX4 32 "SailLogModel" "drifts" "[I").before ([.ref (ad 0), .int h, .int d, .int r9] : List Value).toArray s = true := hts _ (by decide +kernel)
  have i4 : ∀ w ∈ wsX40, w ∈ wsX4_setTide := by decide +kernel
  have k29 : (Cond.fieldLink RX4 29 "SailLogModel" "directions" "[I").before ([.ref (ad 0), .int h, .int d, .int r9] : List Value).toArray s = true := hts _ (by decide +kernel)
  refine lv_aload_n hx hb dX4_setTide_0 rfl (lv_at hl 0 rfl) ?_
  have j41 : ∀ (v9 : Int32) (hv9 : v9 = rL (0 ≤ h ∧ h ≤ 23) ((0 ≤ d ∧ d ≤ 359) ∧ (0 ≤ r9 ∧ r9 ≤ 100))) (ls : Array Slot), lv_has ls 5 [(0, .ref (ad 0)), (1, .int h), (2, .int d), (3, .int r9)] → W p l e ({ frames := 1, cells := 0, slots := 0, locals := 22 } : Room) s m ([.ref (ad 0), .int h, .int d, .int r9] : List Value).toArray below meth c s.heap [] 0 0 (MQ below (va_Qi (S := Unit) (fun rr _ => rr = if (0 ≤ h ∧ h ≤ 23) ∧ ((0 ≤ d ∧ d ≤ 359) ∧ (0 ≤ r9 ∧ r9 ≤ 100)) then κ 7 (iN h) else 0) (fun _ t => va_P D.1 vwCl (MW D ad (rL (0 ≤ h ∧ h ≤ 23) ((0 ≤ d ∧ d ≤ 359) ∧ (0 ≤ r9 ∧ r9 ≤ 100))) (if (0 ≤ h ∧ h ≤ 23) ∧ ((0 ≤ d ∧ d ≤ 359) ∧ (0 ≤ r9 ∧ r9 ≤ 100)) then (kset (kset κ 6 (iN h) d) 7 (iN h) r9) else κ)) t.heap) (rA 8 ad s.heap.size)) ([.ref (ad 0), .int h, .int d, .int r9] : List Value).toArray s 0 0 (rA 8 ad s.heap.size)) (F0 m 41 ls [.int v9, .ref (ad 0)]) := by
    intro v9 hv9 ls hl
    subst hv9
    refine s_miV (wd' := (MW D ad (rL (0 ≤ h ∧ h ≤ 23) ((0 ≤ d ∧ d ≤ 359) ∧ (0 ≤ r9 ∧ r9 ≤ 100))) κ)) (As := [.int (rL (0 ≤ h ∧ h ≤ 23) ((0 ≤ d ∧ d ≤ 359) ∧ (0 ≤ r9 ∧ r9 ≤ 100)))]) (rest := []) ⟨hx, hb, hml, hown, hts⟩ (c_X4_refused l D B ad rf κ s.heap.size (rL (0 ≤ h ∧ h ≤ 23) ((0 ≤ d ∧ d ≤ 359) ∧ (0 ≤ r9 ∧ r9 ≤ 100))) ) (cwV 1 hts gX4_setTide_X4_refused rfl rfl rfl hdV_X4_refused ⟨Nat.le_of_ble_eq_true rfl, Nat.le_of_ble_eq_true rfl⟩) (sPVz hS.1 (ci := 4) (q0 := 0) rfl rfl) hS (MW_adr _ _ _ _) (MW_adr _ _ _ _) rfl hl.1 rfl (Nat.le_of_ble_eq_true rfl) dX4_setTide_41 ⟨Nat.le_of_ble_eq_true rfl, Nat.le_of_ble_eq_true rfl⟩ (fun H locs hS => ?_)
    refine lv_if_eq (tgt := 49) hx hb dX4_setTide_44 (by decide) (fun c44 => ?_) (fun c44 => ?_)
    ·
      replace c44 := bI_0.mp c44
      have c44 := rL_0.mp (Decidable.not_not.mp c44)
      obtain ⟨eh, hh24⟩ := rng_ok 23 (by decide +kernel) (by omega) c44.1
      refine lv_aload_n hx hb dX4_setTide_49 rfl (lv_at hl 0 rfl) ?_
      refine g4_11 hx hb hts i4 hown hS.1 k32 dX4_setTide_50 ?_
      refine lv_iload_n hx hb dX4_setTide_53 rfl (lv_at hl 1 rfl) ?_
      refine b_7 (k := iN h) hx hb hS.1 (eh) (by omega) dX4_setTide_54 ?_
      refine lv_istore (lv' := [(4, .int (κ 7 (iN h))), (0, .ref (ad 0)), (1, .int h), (2, .int d), (3, .int r9)]) hx hb dX4_setTide_55 hl (by decide) rfl (fun ls hl => ?_)
      refine lv_aload_n hx hb dX4_setTide_57 rfl (lv_at hl 1 rfl) ?_
      refine g4_10 hx hb hts i4 hown hS.1 k29 dX4_setTide_58 ?_
      refine lv_iload_n hx hb dX4_setTide_61 rfl (lv_at hl 2 rfl) ?_
      refine lv_iload_n hx hb dX4_setTide_62 rfl (lv_at hl 3 rfl) ?_
      refine u_6 (k := iN h) hx hb hS (eh) (by omega) dX4_setTide_63 (fun H locs hS => ?_)
      refine lv_aload_n hx hb dX4_setTide_64 rfl (lv_at hl 1 rfl) ?_
      refine g4_11 hx hb hts i4 hown hS.1 k32 dX4_setTide_65 ?_
      refine lv_iload_n hx hb dX4_setTide_68 rfl (lv_at hl 2 rfl) ?_
      refine lv_iload_n hx hb dX4_setTide_69 rfl (lv_at hl 4 rfl) ?_
      refine u_7 (k := iN h) hx hb hS (eh) (by omega) dX4_setTide_70 (fun H locs hS => ?_)
      refine lv_iload hx hb dX4_setTide_71 (lv_at hl 0 rfl) ?_
      rw [show (MW D ad (rL (0 ≤ h ∧ h ≤ 23) ((0 ≤ d ∧ d ≤ 359) ∧ (0 ≤ r9 ∧ r9 ≤ 100))) (kset (kset κ 6 (iN h) d) 7 (iN h) r9)) = (MW D ad (rL (0 ≤ h ∧ h ≤ 23) ((0 ≤ d ∧ d ≤ 359) ∧ (0 ≤ r9 ∧ r9 ≤ 100))) (if (0 ≤ h ∧ h ≤ 23) ∧ ((0 ≤ d ∧ d ≤ 359) ∧ (0 ≤ r9 ∧ r9 ≤ 100)) then (kset (kset κ 6 (iN h) d) 7 (iN h) r9) else κ)) from by rw [if_pos c44]] at hS
      exact s_miret hx hb hr hlk dX4_setTide_73 ((if_pos c44).symm) hS
    ·
      replace c44 := bI_n0.mp c44
      have c44 := mt rL_0.mpr c44
      refine lv_iconst (v := 0) hx hb dX4_setTide_47 (by decide +kernel) ?_
      rw [show (MW D ad (rL (0 ≤ h ∧ h ≤ 23) ((0 ≤ d ∧ d ≤ 359) ∧ (0 ≤ r9 ∧ r9 ≤ 100))) κ) = (MW D ad (rL (0 ≤ h ∧ h ≤ 23) ((0 ≤ d ∧ d ≤ 359) ∧ (0 ≤ r9 ∧ r9 ≤ 100))) (if (0 ≤ h ∧ h ≤ 23) ∧ ((0 ≤ d ∧ d ≤ 359) ∧ (0 ≤ r9 ∧ r9 ≤ 100)) then (kset (kset κ 6 (iN h) d) 7 (iN h) r9) else κ)) from by rw [if_neg c44]] at hS
      exact s_miret hx hb hr hlk dX4_setTide_48 ((if_neg c44).symm) hS
  refine lv_iload_n hx hb dX4_setTide_1 rfl (lv_at hl 1 rfl) ?_
  refine lv_iconst (v := 0) hx hb dX4_setTide_2 (by decide +kernel) ?_
  refine lv_bipush (v := 23) hx hb dX4_setTide_3 (by decide +kernel) ?_
  refine s_ciS (As := [.int h, .int 0, .int 23]) (rest := [.ref (ad 0)]) ⟨hx, hb, hml, hown, hts⟩ (c_X4_in l h 0 23 ) (va_cwS 3 hts gX4_setTide_X4_in rfl rfl rfl hdS_X4_in ⟨Nat.le_of_ble_eq_true rfl, Nat.le_of_ble_eq_true rfl⟩) sPS0 rfl hl.1 rfl (Nat.le_of_ble_eq_true rfl) dX4_setTide_5 ⟨Nat.le_of_ble_eq_true rfl, Nat.le_of_ble_eq_true rfl⟩ ?_
  refine lv_if_ne (tgt := 15) hx hb dX4_setTide_8 (by decide) (fun c8 => ?_) (fun c8 => ?_)
  ·
    replace c8 := bI_n0.mp c8
    refine lv_iload_n hx hb dX4_setTide_15 rfl (lv_at hl 2 rfl) ?_
    refine lv_iconst (v := 0) hx hb dX4_setTide_16 (by decide +kernel) ?_
    refine lv_sipush (v := 359) hx hb dX4_setTide_17 (by decide +kernel) ?_
    refine s_ciS (As := [.int d, .int 0, .int 359]) (rest := [.ref (ad 0)]) ⟨hx, hb, hml, hown, hts⟩ (c_X4_in l d 0 359 ) (va_cwS 3 hts gX4_setTide_X4_in rfl rfl rfl hdS_X4_in ⟨Nat.le_of_ble_eq_true rfl, Nat.le_of_ble_eq_true rfl⟩) sPS0 rfl hl.1 rfl (Nat.le_of_ble_eq_true rfl) dX4_setTide_20 ⟨Nat.le_of_ble_eq_true rfl, Nat.le_of_ble_eq_true rfl⟩ ?_
    refine lv_if_eq (tgt := 40) hx hb dX4_setTide_23 (by decide) (fun c23 => ?_) (fun c23 => ?_)
    ·
      replace c23 := bI_0.mp c23
      refine lv_iconst (v := 2) hx hb dX4_setTide_40 (by decide +kernel) ?_
      exact j41 2 (rL_c c8 (fun q => c23 q.1)) _ (lv_sub hl [0, 1, 2, 3] rfl)
    ·
      replace c23 := bI_n0.mp c23
      refine lv_iload_n hx hb dX4_setTide_26 rfl (lv_at hl 3 rfl) ?_
      refine lv_iconst (v := 0) hx hb dX4_setTide_27 (by decide +kernel) ?_
      refine lv_bipush (v := 100) hx hb dX4_setTide_28 (by decide +kernel) ?_
      refine s_ciS (As := [.int r9, .int 0, .int 100]) (rest := [.ref (ad 0)]) ⟨hx, hb, hml, hown, hts⟩ (c_X4_in l r9 0 100 ) (va_cwS 3 hts gX4_setTide_X4_in rfl rfl rfl hdS_X4_in ⟨Nat.le_of_ble_eq_true rfl, Nat.le_of_ble_eq_true rfl⟩) sPS0 rfl hl.1 rfl (Nat.le_of_ble_eq_true rfl) dX4_setTide_30 ⟨Nat.le_of_ble_eq_true rfl, Nat.le_of_ble_eq_true rfl⟩ ?_
      refine lv_if_eq (tgt := 40) hx hb dX4_setTide_33 (by decide) (fun c33 => ?_) (fun c33 => ?_)
      ·
        replace c33 := bI_0.mp c33
        refine lv_iconst (v := 2) hx hb dX4_setTide_40 (by decide +kernel) ?_
        exact j41 2 (rL_c c8 (fun q => c33 q.2)) _ (lv_sub hl [0, 1, 2, 3] rfl)
      ·
        replace c33 := bI_n0.mp c33
        refine lv_iconst (v := 0) hx hb dX4_setTide_36 (by decide +kernel) ?_
        refine lv_goto (tgt := 41) hx hb dX4_setTide_37 (by decide) ?_
        exact j41 0 (rL_b c8 ⟨c23, c33⟩) _ (lv_sub hl [0, 1, 2, 3] rfl)
  ·
    replace c8 := bI_0.mp c8
    refine lv_iconst (v := 1) hx hb dX4_setTide_11 (by decide +kernel) ?_
    refine lv_goto (tgt := 41) hx hb dX4_setTide_12 (by decide) ?_
    exact j41 1 (rL_a c8) _ (lv_sub hl [0, 1, 2, 3] rfl)
set_option maxRecDepth 100000 in
set_option maxHeartbeats 4000000 in
theorem c_X4_log (l : Launch) (D : sD) (B : Nat) (ad : Nat → Nat) (rf : Int32) (κ : sQ) (sz : Nat) (x1 : Int32) (x2 : Int32) (x3 : Int32) (x4 : Int32) (x5 : Int32) (n : Nat) (hn9 : κ 0 0 = nI n) (hn60 : n ≤ 60) : Met l yX4_log wsX4_log ({ frames := 1, cells := 0, slots := 0, locals := 22 } : Room) (sPz D B (MW D ad rf κ) sz ([.ref (ad 0), .int x1, .int x2, .int x3, .int x4, .int x5] : List Value)) (va_Qi (S := Unit) (fun rr _ => rr = if ((0 ≤ x1 ∧ x1 ≤ 1439) ∧ (0 ≤ x2 ∧ x2 ≤ 300) ∧ (0 ≤ x3 ∧ x3 ≤ 359) ∧ (0 ≤ x4 ∧ x4 ≤ 600) ∧ (0 ≤ x5 ∧ x5 ≤ 359)) ∧ (n < 60 ∧ (n = 0 ∨ κ 1 (n - 1) < x1)) then nI n else 0) (fun _ t => va_P D.1 vwCl (MW D ad (rL ((0 ≤ x1 ∧ x1 ≤ 1439) ∧ (0 ≤ x2 ∧ x2 ≤ 300) ∧ (0 ≤ x3 ∧ x3 ≤ 359) ∧ (0 ≤ x4 ∧ x4 ≤ 600) ∧ (0 ≤ x5 ∧ x5 ≤ 359)) (n < 60 ∧ (n = 0 ∨ κ 1 (n - 1) < x1))) (if ((0 ≤ x1 ∧ x1 ≤ 1439) ∧ (0 ≤ x2 ∧ x2 ≤ 300) ∧ (0 ≤ x3 ∧ x3 ≤ 359) ∧ (0 ≤ x4 ∧ x4 ≤ 600) ∧ (0 ≤ x5 ∧ x5 ≤ 359)) ∧ (n < 60 ∧ (n = 0 ∨ κ 1 (n - 1) < x1)) then tLog κ n x1 x2 x3 x4 x5 else κ)) t.heap) (rA 8 ad sz)) 0 0 (rA 8 ad sz) := by
  refine s_head (cc := cX4_log) (maxL := 8) (ret := (some .int)) (by decide +kernel) rfl (Nat.le_of_ble_eq_true rfl) ?_
  intro p e s m below meth c hx hb hr hlk hml hown hnm hts hB0 ls hl
  obtain ⟨hsz, hJ⟩ := hB0
  have hown : s.vm.findClass RX4 = some m.cls := hown
  have hl : lv_has ls 8 [(0, .ref (ad 0)), (1, .int x1), (2, .int x2), (3, .int x3), (4, .int x4), (5, .int x5)] := hl
  subst hsz
  have hS := sS.start hJ (MW_adr D ad rf κ)
  have k7 : (Cond.fieldLink RX4 7 "SailLogModel" "minutes" "[I").before ([.ref (ad 0), .int x1, .int x2, .int x3, .int x4, .int x5] : List Value).toArray s = true := hts _ (by decide +kernel)
  have i4 : ∀ w ∈ wsX40, w ∈ wsX4_log := by decide +kernel
  have k42 : (Cond.fieldLink RX4 42 "SailLogModel" "entries" "I").before ([.ref (ad 0), .int x1, .int x2, .int x3, .int x4, .int x5] : List Value).toArray s = true := hts _ (by decide +kernel)
  have k13 : (Cond.fieldLink RX4 13 "SailLogModel" "speeds" "[I").before ([.ref (ad 0), .int x1, .int x2, .int x3, .int x4, .int x5] : List Value).toArray s = true := hts _ (by decide +kernel)
  have k16 : (Cond.fieldLink RX4 16 "SailLogModel" "headings" "[I").before ([.ref (ad 0), .int x1, .int x2, .int x3, .int x4, .int x5] : List Value).toArray s = true := hts _ (by decide +kernel)
  have k19 : (Cond.fieldLink RX4 19 "SailLogModel" "strengths" "[I").before ([.ref (ad 0), .int x1, .int x2, .int x3, .int x4, .int x5] : List Value).toArray s = true := hts _ (by decide +kernel)
  have k22 : (Cond.fieldLink RX4 22 "SailLogModel" "angles" "[I").before ([.ref (ad 0), .int x1, .int x2, .int x3, .int x4, .int x5] : List Value).toArray s = true := hts _ (by decide +kernel)
  have j62 : ∀ (v8 : Int32) (hv8 : v8 = bI ((0 ≤ x1 ∧ x1 ≤ 1439) ∧ (0 ≤ x2 ∧ x2 ≤ 300) ∧ (0 ≤ x3 ∧ x3 ≤ 359) ∧ (0 ≤ x4 ∧ x4 ≤ 600) ∧ (0 ≤ x5 ∧ x5 ≤ 359))) (ls : Array Slot), lv_has ls 8 [(0, .ref (ad 0)), (1, .int x1), (2, .int x2), (3, .int x3), (4, .int x4), (5, .int x5)] → W p l e ({ frames := 1, cells := 0, slots := 0, locals := 22 } : Room) s m ([.ref (ad 0), .int x1, .int x2, .int x3, .int x4, .int x5] : List Value).toArray below meth c s.heap [] 0 0 (MQ below (va_Qi (S := Unit) (fun rr _ => rr = if ((0 ≤ x1 ∧ x1 ≤ 1439) ∧ (0 ≤ x2 ∧ x2 ≤ 300) ∧ (0 ≤ x3 ∧ x3 ≤ 359) ∧ (0 ≤ x4 ∧ x4 ≤ 600) ∧ (0 ≤ x5 ∧ x5 ≤ 359)) ∧ (n < 60 ∧ (n = 0 ∨ κ 1 (n - 1) < x1)) then nI n else 0) (fun _ t => va_P D.1 vwCl (MW D ad (rL ((0 ≤ x1 ∧ x1 ≤ 1439) ∧ (0 ≤ x2 ∧ x2 ≤ 300) ∧ (0 ≤ x3 ∧ x3 ≤ 359) ∧ (0 ≤ x4 ∧ x4 ≤ 600) ∧ (0 ≤ x5 ∧ x5 ≤ 359)) (n < 60 ∧ (n = 0 ∨ κ 1 (n - 1) < x1))) (if ((0 ≤ x1 ∧ x1 ≤ 1439) ∧ (0 ≤ x2 ∧ x2 ≤ 300) ∧ (0 ≤ x3 ∧ x3 ≤ 359) ∧ (0 ≤ x4 ∧ x4 ≤ 600) ∧ (0 ≤ x5 ∧ x5 ≤ 359)) ∧ (n < 60 ∧ (n = 0 ∨ κ 1 (n - 1) < x1)) then tLog κ n x1 x2 x3 x4 x5 else κ)) t.heap) (rA 8 ad s.heap.size)) ([.ref (ad 0), .int x1, .int x2, .int x3, .int x4, .int x5] : List Value).toArray s 0 0 (rA 8 ad s.heap.size)) (F0 m 62 ls [.int v8]) := by
    intro v8 hv8 ls hl
    subst hv8
    refine lv_istore (lv' := [(6, .int (bI ((0 ≤ x1 ∧ x1 ≤ 1439) ∧ (0 ≤ x2 ∧ x2 ≤ 300) ∧ (0 ≤ x3 ∧ x3 ≤ 359) ∧ (0 ≤ x4 ∧ x4 ≤ 600) ∧ (0 ≤ x5 ∧ x5 ≤ 359)))), (0, .ref (ad 0)), (1, .int x1), (2, .int x2), (3, .int x3), (4, .int x4), (5, .int x5)]) hx hb dX4_log_62 hl (by decide) rfl (fun ls hl => ?_)
    have j100 : ∀ (v9 : Int32) (hv9 : v9 = bI (n < 60 ∧ (n = 0 ∨ κ 1 (n - 1) < x1))) (ls : Array Slot), lv_has ls 8 [(6, .int (bI ((0 ≤ x1 ∧ x1 ≤ 1439) ∧ (0 ≤ x2 ∧ x2 ≤ 300) ∧ (0 ≤ x3 ∧ x3 ≤ 359) ∧ (0 ≤ x4 ∧ x4 ≤ 600) ∧ (0 ≤ x5 ∧ x5 ≤ 359)))), (0, .ref (ad 0)), (1, .int x1), (2, .int x2), (3, .int x3), (4, .int x4), (5, .int x5)] → W p l e ({ frames := 1, cells := 0, slots := 0, locals := 22 } : Room) s m ([.ref (ad 0), .int x1, .int x2, .int x3, .int x4, .int x5] : List Value).toArray below meth c s.heap [] 0 0 (MQ below (va_Qi (S := Unit) (fun rr _ => rr = if ((0 ≤ x1 ∧ x1 ≤ 1439) ∧ (0 ≤ x2 ∧ x2 ≤ 300) ∧ (0 ≤ x3 ∧ x3 ≤ 359) ∧ (0 ≤ x4 ∧ x4 ≤ 600) ∧ (0 ≤ x5 ∧ x5 ≤ 359)) ∧ (n < 60 ∧ (n = 0 ∨ κ 1 (n - 1) < x1)) then nI n else 0) (fun _ t => va_P D.1 vwCl (MW D ad (rL ((0 ≤ x1 ∧ x1 ≤ 1439) ∧ (0 ≤ x2 ∧ x2 ≤ 300) ∧ (0 ≤ x3 ∧ x3 ≤ 359) ∧ (0 ≤ x4 ∧ x4 ≤ 600) ∧ (0 ≤ x5 ∧ x5 ≤ 359)) (n < 60 ∧ (n = 0 ∨ κ 1 (n - 1) < x1))) (if ((0 ≤ x1 ∧ x1 ≤ 1439) ∧ (0 ≤ x2 ∧ x2 ≤ 300) ∧ (0 ≤ x3 ∧ x3 ≤ 359) ∧ (0 ≤ x4 ∧ x4 ≤ 600) ∧ (0 ≤ x5 ∧ x5 ≤ 359)) ∧ (n < 60 ∧ (n = 0 ∨ κ 1 (n - 1) < x1)) then tLog κ n x1 x2 x3 x4 x5 else κ)) t.heap) (rA 8 ad s.heap.size)) ([.ref (ad 0), .int x1, .int x2, .int x3, .int x4, .int x5] : List Value).toArray s 0 0 (rA 8 ad s.heap.size)) (F0 m 100 ls [.int v9]) := by
      intro v9 hv9 ls hl
      subst hv9
      refine lv_istore (lv' := [(7, .int (bI (n < 60 ∧ (n = 0 ∨ κ 1 (n - 1) < x1)))), (6, .int (bI ((0 ≤ x1 ∧ x1 ≤ 1439) ∧ (0 ≤ x2 ∧ x2 ≤ 300) ∧ (0 ≤ x3 ∧ x3 ≤ 359) ∧ (0 ≤ x4 ∧ x4 ≤ 600) ∧ (0 ≤ x5 ∧ x5 ≤ 359)))), (0, .ref (ad 0)), (1, .int x1), (2, .int x2), (3, .int x3), (4, .int x4), (5, .int x5)]) hx hb dX4_log_100 hl (by decide) rfl (fun ls hl => ?_)
      refine lv_aload_n hx hb dX4_log_102 rfl (lv_at hl 2 rfl) ?_
      have j122 : ∀ (v7 : Int32) (hv7 : v7 = rL ((0 ≤ x1 ∧ x1 ≤ 1439) ∧ (0 ≤ x2 ∧ x2 ≤ 300) ∧ (0 ≤ x3 ∧ x3 ≤ 359) ∧ (0 ≤ x4 ∧ x4 ≤ 600) ∧ (0 ≤ x5 ∧ x5 ≤ 359)) (n < 60 ∧ (n = 0 ∨ κ 1 (n - 1) < x1))) (ls : Array Slot), lv_has ls 8 [(7, .int (bI (n < 60 ∧ (n = 0 ∨ κ 1 (n - 1) < x1)))), (6, .int (bI ((0 ≤ x1 ∧ x1 ≤ 1439) ∧ (0 ≤ x2 ∧ x2 ≤ 300) ∧ (0 ≤ x3 ∧ x3 ≤ 359) ∧ (0 ≤ x4 ∧ x4 ≤ 600) ∧ (0 ≤ x5 ∧ x5 ≤ 359)))), (0, .ref (ad 0)), (1, .int x1), (2, .int x2), (3, .int x3), (4, .int x4), (5, .int x5)] → W p l e ({ frames := 1, cells := 0, slots := 0, locals := 22 } : Room) s m ([.ref (ad 0), .int x1, .int x2, .int x3, .int x4, .int x5] : List Value).toArray below meth c s.heap [] 0 0 (MQ below (va_Qi (S := Unit) (fun rr _ => rr = if ((0 ≤ x1 ∧ x1 ≤ 1439) ∧ (0 ≤ x2 ∧ x2 ≤ 300) ∧ (0 ≤ x3 ∧ x3 ≤ 359) ∧ (0 ≤ x4 ∧ x4 ≤ 600) ∧ (0 ≤ x5 ∧ x5 ≤ 359)) ∧ (n < 60 ∧ (n = 0 ∨ κ 1 (n - 1) < x1)) then nI n else 0) (fun _ t => va_P D.1 vwCl (MW D ad (rL ((0 ≤ x1 ∧ x1 ≤ 1439) ∧ (0 ≤ x2 ∧ x2 ≤ 300) ∧ (0 ≤ x3 ∧ x3 ≤ 359) ∧ (0 ≤ x4 ∧ x4 ≤ 600) ∧ (0 ≤ x5 ∧ x5 ≤ 359)) (n < 60 ∧ (n = 0 ∨ κ 1 (n - 1) < x1))) (if ((0 ≤ x1 ∧ x1 ≤ 1439) ∧ (0 ≤ x2 ∧ x2 ≤ 300) ∧ (0 ≤ x3 ∧ x3 ≤ 359) ∧ (0 ≤ x4 ∧ x4 ≤ 600) ∧ (0 ≤ x5 ∧ x5 ≤ 359)) ∧ (n < 60 ∧ (n = 0 ∨ κ 1 (n - 1) < x1)) then tLog κ n x1 x2 x3 x4 x5 else κ)) t.heap) (rA 8 ad s.heap.size)) ([.ref (ad 0), .int x1, .int x2, .int x3, .int x4, .int x5] : List Value).toArray s 0 0 (rA 8 ad s.heap.size)) (F0 m 122 ls [.int v7, .ref (ad 0)]) := by
        intro v7 hv7 ls hl
        subst hv7
        refine s_miV (wd' := (MW D ad (rL ((0 ≤ x1 ∧ x1 ≤ 1439) ∧ (0 ≤ x2 ∧ x2 ≤ 300) ∧ (0 ≤ x3 ∧ x3 ≤ 359) ∧ (0 ≤ x4 ∧ x4 ≤ 600) ∧ (0 ≤ x5 ∧ x5 ≤ 359)) (n < 60 ∧ (n = 0 ∨ κ 1 (n - 1) < x1))) κ)) (As := [.int (rL ((0 ≤ x1 ∧ x1 ≤ 1439) ∧ (0 ≤ x2 ∧ x2 ≤ 300) ∧ (0 ≤ x3 ∧ x3 ≤ 359) ∧ (0 ≤ x4 ∧ x4 ≤ 600) ∧ (0 ≤ x5 ∧ x5 ≤ 359)) (n < 60 ∧ (n = 0 ∨ κ 1 (n - 1) < x1)))]) (rest := []) ⟨hx, hb, hml, hown, hts⟩ (c_X4_refused l D B ad rf κ s.heap.size (rL ((0 ≤ x1 ∧ x1 ≤ 1439) ∧ (0 ≤ x2 ∧ x2 ≤ 300) ∧ (0 ≤ x3 ∧ x3 ≤ 359) ∧ (0 ≤ x4 ∧ x4 ≤ 600) ∧ (0 ≤ x5 ∧ x5 ≤ 359)) (n < 60 ∧ (n = 0 ∨ κ 1 (n - 1) < x1))) ) (cwV 1 hts gX4_log_X4_refused rfl rfl rfl hdV_X4_refused ⟨Nat.le_of_ble_eq_true rfl, Nat.le_of_ble_eq_true rfl⟩) (sPVz hS.1 (ci := 4) (q0 := 0) rfl rfl) hS (MW_adr _ _ _ _) (MW_adr _ _ _ _) rfl hl.1 rfl (Nat.le_of_ble_eq_true rfl) dX4_log_122 ⟨Nat.le_of_ble_eq_true rfl, Nat.le_of_ble_eq_true rfl⟩ (fun H locs hS => ?_)
        refine lv_if_eq (tgt := 130) hx hb dX4_log_125 (by decide) (fun c125 => ?_) (fun c125 => ?_)
        ·
          replace c125 := bI_0.mp c125
          have c125 := rL_0.mp (Decidable.not_not.mp c125)
          have hn6 : n < 60 := c125.2.1
          refine lv_aload_n hx hb dX4_log_130 rfl (lv_at hl 2 rfl) ?_
          refine g4_2 hx hb hts i4 hown hS.1 k7 dX4_log_131 ?_
          refine lv_aload_n hx hb dX4_log_134 rfl (lv_at hl 2 rfl) ?_
          refine g4_1 hx hb hts i4 hown hS.1 k42 dX4_log_135 ?_
          refine lv_iload_n hx hb dX4_log_138 rfl (lv_at hl 3 rfl) ?_
          refine u_1 (k := n) hx hb hS (by simp [kset, hn9]) (hn6) dX4_log_139 (fun H locs hS => ?_)
          refine lv_aload_n hx hb dX4_log_140 rfl (lv_at hl 2 rfl) ?_
          refine g4_3 hx hb hts i4 hown hS.1 k13 dX4_log_141 ?_
          refine lv_aload_n hx hb dX4_log_144 rfl (lv_at hl 2 rfl) ?_
          refine g4_1 hx hb hts i4 hown hS.1 k42 dX4_log_145 ?_
          refine lv_iload_n hx hb dX4_log_148 rfl (lv_at hl 4 rfl) ?_
          refine u_2 (k := n) hx hb hS (by simp [kset, hn9]) (hn6) dX4_log_149 (fun H locs hS => ?_)
          refine lv_aload_n hx hb dX4_log_150 rfl (lv_at hl 2 rfl) ?_
          refine g4_4 hx hb hts i4 hown hS.1 k16 dX4_log_151 ?_
          refine lv_aload_n hx hb dX4_log_154 rfl (lv_at hl 2 rfl) ?_
          refine g4_1 hx hb hts i4 hown hS.1 k42 dX4_log_155 ?_
          refine lv_iload_n hx hb dX4_log_158 rfl (lv_at hl 5 rfl) ?_
          refine u_3 (k := n) hx hb hS (by simp [kset, hn9]) (hn6) dX4_log_159 (fun H locs hS => ?_)
          refine lv_aload_n hx hb dX4_log_160 rfl (lv_at hl 2 rfl) ?_
          refine g4_5 hx hb hts i4 hown hS.1 k19 dX4_log_161 ?_
          refine lv_aload_n hx hb dX4_log_164 rfl (lv_at hl 2 rfl) ?_
          refine g4_1 hx hb hts i4 hown hS.1 k42 dX4_log_165 ?_
          refine lv_iload hx hb dX4_log_168 (lv_at hl 6 rfl) ?_
          refine u_4 (k := n) hx hb hS (by simp [kset, hn9]) (hn6) dX4_log_170 (fun H locs hS => ?_)
          refine lv_aload_n hx hb dX4_log_171 rfl (lv_at hl 2 rfl) ?_
          refine g4_6 hx hb hts i4 hown hS.1 k22 dX4_log_172 ?_
          refine lv_aload_n hx hb dX4_log_175 rfl (lv_at hl 2 rfl) ?_
          refine g4_1 hx hb hts i4 hown hS.1 k42 dX4_log_176 ?_
          refine lv_iload hx hb dX4_log_179 (lv_at hl 7 rfl) ?_
          refine u_5 (k := n) hx hb hS (by simp [kset, hn9]) (hn6) dX4_log_181 (fun H locs hS => ?_)
          refine lv_aload_n hx hb dX4_log_182 rfl (lv_at hl 2 rfl) ?_
          refine lv_dup hx hb dX4_log_183 rfl ?_
          refine g4_1 hx hb hts i4 hown hS.1 k42 dX4_log_184 ?_
          refine lv_topi (fun zz ezz => ?_)
          obtain rfl : zz = nI n := ezz.trans (by simp [kset, hn9])
          refine lv_iconst (v := 1) hx hb dX4_log_187 (by decide +kernel) ?_
          refine lv_iadd hx hb dX4_log_188 ?_
          refine lv_topi (fun zz ezz => ?_)
          obtain rfl : zz = nI (n + 1) := ezz.trans (nI_1 n)
          refine p4_1 hx hb hts i4 hown hS k42 dX4_log_189 (fun H locs hS => ?_)
          refine lv_aload_n hx hb dX4_log_192 rfl (lv_at hl 2 rfl) ?_
          refine g4_1 hx hb hts i4 hown hS.1 k42 dX4_log_193 ?_
          refine lv_topi (fun zz ezz => ?_)
          obtain rfl : zz = nI (n + 1) := ezz.trans (kset_self _ _ _ _)
          refine lv_iconst (v := 1) hx hb dX4_log_196 (by decide +kernel) ?_
          refine lv_isub hx hb dX4_log_197 ?_
          refine lv_topi (fun zz ezz => ?_)
          obtain rfl : zz = nI n := ezz.trans (nI_pred n)
          rw [show (MW D ad (rL ((0 ≤ x1 ∧ x1 ≤ 1439) ∧ (0 ≤ x2 ∧ x2 ≤ 300) ∧ (0 ≤ x3 ∧ x3 ≤ 359) ∧ (0 ≤ x4 ∧ x4 ≤ 600) ∧ (0 ≤ x5 ∧ x5 ≤ 359)) (n < 60 ∧ (n = 0 ∨ κ 1 (n - 1) < x1))) (kset (kset (kset (kset (kset (kset κ 1 n x1) 2 n x2) 3 n x3) 4 n x4) 5 n x5) 0 0 (nI (n + 1)))) = (MW D ad (rL ((0 ≤ x1 ∧ x1 ≤ 1439) ∧ (0 ≤ x2 ∧ x2 ≤ 300) ∧ (0 ≤ x3 ∧ x3 ≤ 359) ∧ (0 ≤ x4 ∧ x4 ≤ 600) ∧ (0 ≤ x5 ∧ x5 ≤ 359)) (n < 60 ∧ (n = 0 ∨ κ 1 (n - 1) < x1))) (if ((0 ≤ x1 ∧ x1 ≤ 1439) ∧ (0 ≤ x2 ∧ x2 ≤ 300) ∧ (0 ≤ x3 ∧ x3 ≤ 359) ∧ (0 ≤ x4 ∧ x4 ≤ 600) ∧ (0 ≤ x5 ∧ x5 ≤ 359)) ∧ (n < 60 ∧ (n = 0 ∨ κ 1 (n - 1) < x1)) then tLog κ n x1 x2 x3 x4 x5 else κ)) from by rw [if_pos c125]; rfl] at hS
          exact s_miret hx hb hr hlk dX4_log_198 ((if_pos c125).symm) hS
        ·
          replace c125 := bI_n0.mp c125
          have c125 := mt rL_0.mpr c125
          refine lv_iconst (v := 0) hx hb dX4_log_128 (by decide +kernel) ?_
          rw [show (MW D ad (rL ((0 ≤ x1 ∧ x1 ≤ 1439) ∧ (0 ≤ x2 ∧ x2 ≤ 300) ∧ (0 ≤ x3 ∧ x3 ≤ 359) ∧ (0 ≤ x4 ∧ x4 ≤ 600) ∧ (0 ≤ x5 ∧ x5 ≤ 359)) (n < 60 ∧ (n = 0 ∨ κ 1 (n - 1) < x1))) κ) = (MW D ad (rL ((0 ≤ x1 ∧ x1 ≤ 1439) ∧ (0 ≤ x2 ∧ x2 ≤ 300) ∧ (0 ≤ x3 ∧ x3 ≤ 359) ∧ (0 ≤ x4 ∧ x4 ≤ 600) ∧ (0 ≤ x5 ∧ x5 ≤ 359)) (n < 60 ∧ (n = 0 ∨ κ 1 (n - 1) < x1))) (if ((0 ≤ x1 ∧ x1 ≤ 1439) ∧ (0 ≤ x2 ∧ x2 ≤ 300) ∧ (0 ≤ x3 ∧ x3 ≤ 359) ∧ (0 ≤ x4 ∧ x4 ≤ 600) ∧ (0 ≤ x5 ∧ x5 ≤ 359)) ∧ (n < 60 ∧ (n = 0 ∨ κ 1 (n - 1) < x1)) then tLog κ n x1 x2 x3 x4 x5 else κ)) from by rw [if_neg c125]] at hS
          exact s_miret hx hb hr hlk dX4_log_129 ((if_neg c125).symm) hS
      refine lv_iload hx hb dX4_log_103 (lv_at hl 1 rfl) ?_
      refine lv_if_ne (tgt := 112) hx hb dX4_log_105 (by decide) (fun c105 => ?_) (fun c105 => ?_)
      ·
        replace c105 := bI_n0.mp c105
        refine lv_iload hx hb dX4_log_112 (lv_at hl 0 rfl) ?_
        refine lv_if_eq (tgt := 121) hx hb dX4_log_114 (by decide) (fun c114 => ?_) (fun c114 => ?_)
        ·
          replace c114 := bI_0.mp c114
          refine lv_iconst (v := 2) hx hb dX4_log_121 (by decide +kernel) ?_
          exact j122 2 (rL_c c105 c114) _ (lv_sub hl [0, 1, 2, 3, 4, 5, 6, 7] rfl)
        ·
          replace c114 := bI_n0.mp c114
          refine lv_iconst (v := 0) hx hb dX4_log_117 (by decide +kernel) ?_
          refine lv_goto (tgt := 122) hx hb dX4_log_118 (by decide) ?_
          exact j122 0 (rL_b c105 c114) _ (lv_sub hl [0, 1, 2, 3, 4, 5, 6, 7] rfl)
      ·
        replace c105 := bI_0.mp c105
        refine lv_iconst (v := 1) hx hb dX4_log_108 (by decide +kernel) ?_
        refine lv_goto (tgt := 122) hx hb dX4_log_109 (by decide) ?_
        exact j122 1 (rL_a c105) _ (lv_sub hl [0, 1, 2, 3, 4, 5, 6, 7] rfl)
    refine lv_aload_n hx hb dX4_log_64 rfl (lv_at hl 1 rfl) ?_
    refine g4_1 hx hb hts i4 hown hS.1 k42 dX4_log_65 ?_
    refine lv_bipush (v := 60) hx hb dX4_log_68 (by decide +kernel) ?_
    refine lv_icmp_ge (tgt := 99) hx hb dX4_log_70 (by decide) (fun c70 => ?_) (fun c70 => ?_)
    ·
      refine lv_iconst (v := 0) hx hb dX4_log_99 (by decide +kernel) ?_
      exact j100 0 ((bI_f (fun q => by rw [hn9] at c70; have := (nI_leI (a := 60) (b := n) (by omega) (by omega)).mp c70; omega)).symm) _ (lv_sub hl [0, 1, 2, 3, 4, 5, 6] rfl)
    ·
      refine lv_aload_n hx hb dX4_log_73 rfl (lv_at hl 1 rfl) ?_
      refine g4_1 hx hb hts i4 hown hS.1 k42 dX4_log_74 ?_
      refine lv_if_eq (tgt := 95) hx hb dX4_log_77 (by decide) (fun c77 => ?_) (fun c77 => ?_)
      ·
        refine lv_iconst (v := 1) hx hb dX4_log_95 (by decide +kernel) ?_
        refine lv_goto (tgt := 100) hx hb dX4_log_96 (by decide) ?_
        exact j100 1 ((bI_t ⟨by rw [hn9] at c70; have := mt (nI_leI (a := 60) (b := n) (by omega) (by omega)).mpr c70; omega, Or.inl (by rw [hn9] at c77; exact (nI_z (by omega)).mp c77)⟩).symm) _ (lv_sub hl [0, 1, 2, 3, 4, 5, 6] rfl)
      ·
        have hn1 : 1 ≤ n := Nat.one_le_iff_ne_zero.mpr (fun e => c77 (by rw [hn9, e]; decide +kernel))
        refine lv_iload_n hx hb dX4_log_80 rfl (lv_at hl 2 rfl) ?_
        refine lv_aload_n hx hb dX4_log_81 rfl (lv_at hl 1 rfl) ?_
        refine g4_2 hx hb hts i4 hown hS.1 k7 dX4_log_82 ?_
        refine lv_aload_n hx hb dX4_log_85 rfl (lv_at hl 1 rfl) ?_
        refine g4_1 hx hb hts i4 hown hS.1 k42 dX4_log_86 ?_
        refine lv_iconst (v := 1) hx hb dX4_log_89 (by decide +kernel) ?_
        refine lv_isub hx hb dX4_log_90 ?_
        refine b_1 (k := n - 1) hx hb hS.1 (by rw [hn9]; exact nI_pre hn1) (by omega) dX4_log_91 ?_
        refine lv_icmp_le (tgt := 99) hx hb dX4_log_92 (by decide) (fun c92 => ?_) (fun c92 => ?_)
        ·
          refine lv_iconst (v := 0) hx hb dX4_log_99 (by decide +kernel) ?_
          exact j100 0 ((bI_f (fun q => q.2.elim (fun e => c77 (by rw [hn9, e]; decide +kernel)) (fun e => by rw [i32_lt] at e; rw [i32_le] at c92; omega))).symm) _ (lv_sub hl [0, 1, 2, 3, 4, 5, 6] rfl)
        ·
          refine lv_iconst (v := 1) hx hb dX4_log_95 (by decide +kernel) ?_
          refine lv_goto (tgt := 100) hx hb dX4_log_96 (by decide) ?_
          exact j100 1 ((bI_t ⟨by rw [hn9] at c70; have := mt (nI_leI (a := 60) (b := n) (by omega) (by omega)).mpr c70; omega, Or.inr (nle c92)⟩).symm) _ (lv_sub hl [0, 1, 2, 3, 4, 5, 6] rfl)
  refine lv_iload_n hx hb dX4_log_0 rfl (lv_at hl 1 rfl) ?_
  refine lv_iconst (v := 0) hx hb dX4_log_1 (by decide +kernel) ?_
  refine lv_sipush (v := 1439) hx hb dX4_log_2 (by decide +kernel) ?_
  refine s_ciS (As := [.int x1, .int 0, .int 1439]) (rest := []) ⟨hx, hb, hml, hown, hts⟩ (c_X4_in l x1 0 1439 ) (va_cwS 3 hts gX4_log_X4_in rfl rfl rfl hdS_X4_in ⟨Nat.le_of_ble_eq_true rfl, Nat.le_of_ble_eq_true rfl⟩) sPS0 rfl hl.1 rfl (Nat.le_of_ble_eq_true rfl) dX4_log_5 ⟨Nat.le_of_ble_eq_true rfl, Nat.le_of_ble_eq_true rfl⟩ ?_
  refine lv_if_eq (tgt := 61) hx hb dX4_log_8 (by decide) (fun c8 => ?_) (fun c8 => ?_)
  ·
    replace c8 := bI_0.mp c8
    refine lv_iconst (v := 0) hx hb dX4_log_61 (by decide +kernel) ?_
    exact j62 0 ((bI_f (fun q => c8 q.1)).symm) _ (lv_sub hl [0, 1, 2, 3, 4, 5] rfl)
  ·
    replace c8 := bI_n0.mp c8
    refine lv_iload_n hx hb dX4_log_11 rfl (lv_at hl 2 rfl) ?_
    refine lv_iconst (v := 0) hx hb dX4_log_12 (by decide +kernel) ?_
    refine lv_sipush (v := 300) hx hb dX4_log_13 (by decide +kernel) ?_
    refine s_ciS (As := [.int x2, .int 0, .int 300]) (rest := []) ⟨hx, hb, hml, hown, hts⟩ (c_X4_in l x2 0 300 ) (va_cwS 3 hts gX4_log_X4_in rfl rfl rfl hdS_X4_in ⟨Nat.le_of_ble_eq_true rfl, Nat.le_of_ble_eq_true rfl⟩) sPS0 rfl hl.1 rfl (Nat.le_of_ble_eq_true rfl) dX4_log_16 ⟨Nat.le_of_ble_eq_true rfl, Nat.le_of_ble_eq_true rfl⟩ ?_
    refine lv_if_eq (tgt := 61) hx hb dX4_log_19 (by decide) (fun c19 => ?_) (fun c19 => ?_)
    ·
      replace c19 := bI_0.mp c19
      refine lv_iconst (v := 0) hx hb dX4_log_61 (by decide +kernel) ?_
      exact j62 0 ((bI_f (fun q => c19 q.2.1)).symm) _ (lv_sub hl [0, 1, 2, 3, 4, 5] rfl)
    ·
      replace c19 := bI_n0.mp c19
      refine lv_iload_n hx hb dX4_log_22 rfl (lv_at hl 3 rfl) ?_
      refine lv_iconst (v := 0) hx hb dX4_log_23 (by decide +kernel) ?_
      refine lv_sipush (v := 359) hx hb dX4_log_24 (by decide +kernel) ?_
      refine s_ciS (As := [.int x3, .int 0, .int 359]) (rest := []) ⟨hx, hb, hml, hown, hts⟩ (c_X4_in l x3 0 359 ) (va_cwS 3 hts gX4_log_X4_in rfl rfl rfl hdS_X4_in ⟨Nat.le_of_ble_eq_true rfl, Nat.le_of_ble_eq_true rfl⟩) sPS0 rfl hl.1 rfl (Nat.le_of_ble_eq_true rfl) dX4_log_27 ⟨Nat.le_of_ble_eq_true rfl, Nat.le_of_ble_eq_true rfl⟩ ?_
      refine lv_if_eq (tgt := 61) hx hb dX4_log_30 (by decide) (fun c30 => ?_) (fun c30 => ?_)
      ·
        replace c30 := bI_0.mp c30
        refine lv_iconst (v := 0) hx hb dX4_log_61 (by decide +kernel) ?_
        exact j62 0 ((bI_f (fun q => c30 q.2.2.1)).symm) _ (lv_sub hl [0, 1, 2, 3, 4, 5] rfl)
      ·
        replace c30 := bI_n0.mp c30
        refine lv_iload hx hb dX4_log_33 (lv_at hl 4 rfl) ?_
        refine lv_iconst (v := 0) hx hb dX4_log_35 (by decide +kernel) ?_
        refine lv_sipush (v := 600) hx hb dX4_log_36 (by decide +kernel) ?_
        refine s_ciS (As := [.int x4, .int 0, .int 600]) (rest := []) ⟨hx, hb, hml, hown, hts⟩ (c_X4_in l x4 0 600 ) (va_cwS 3 hts gX4_log_X4_in rfl rfl rfl hdS_X4_in ⟨Nat.le_of_ble_eq_true rfl, Nat.le_of_ble_eq_true rfl⟩) sPS0 rfl hl.1 rfl (Nat.le_of_ble_eq_true rfl) dX4_log_39 ⟨Nat.le_of_ble_eq_true rfl, Nat.le_of_ble_eq_true rfl⟩ ?_
        refine lv_if_eq (tgt := 61) hx hb dX4_log_42 (by decide) (fun c42 => ?_) (fun c42 => ?_)
        ·
          replace c42 := bI_0.mp c42
          refine lv_iconst (v := 0) hx hb dX4_log_61 (by decide +kernel) ?_
          exact j62 0 ((bI_f (fun q => c42 q.2.2.2.1)).symm) _ (lv_sub hl [0, 1, 2, 3, 4, 5] rfl)
        ·
          replace c42 := bI_n0.mp c42
          refine lv_iload hx hb dX4_log_45 (lv_at hl 5 rfl) ?_
          refine lv_iconst (v := 0) hx hb dX4_log_47 (by decide +kernel) ?_
          refine lv_sipush (v := 359) hx hb dX4_log_48 (by decide +kernel) ?_
          refine s_ciS (As := [.int x5, .int 0, .int 359]) (rest := []) ⟨hx, hb, hml, hown, hts⟩ (c_X4_in l x5 0 359 ) (va_cwS 3 hts gX4_log_X4_in rfl rfl rfl hdS_X4_in ⟨Nat.le_of_ble_eq_true rfl, Nat.le_of_ble_eq_true rfl⟩) sPS0 rfl hl.1 rfl (Nat.le_of_ble_eq_true rfl) dX4_log_51 ⟨Nat.le_of_ble_eq_true rfl, Nat.le_of_ble_eq_true rfl⟩ ?_
          refine lv_if_eq (tgt := 61) hx hb dX4_log_54 (by decide) (fun c54 => ?_) (fun c54 => ?_)
          ·
            replace c54 := bI_0.mp c54
            refine lv_iconst (v := 0) hx hb dX4_log_61 (by decide +kernel) ?_
            exact j62 0 ((bI_f (fun q => c54 q.2.2.2.2)).symm) _ (lv_sub hl [0, 1, 2, 3, 4, 5] rfl)
          ·
            replace c54 := bI_n0.mp c54
            refine lv_iconst (v := 1) hx hb dX4_log_57 (by decide +kernel) ?_
            refine lv_goto (tgt := 62) hx hb dX4_log_58 (by decide) ?_
            exact j62 1 ((bI_t ⟨c8, c19, c30, c42, c54⟩).symm) _ (lv_sub hl [0, 1, 2, 3, 4, 5] rfl)
