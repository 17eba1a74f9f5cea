/-! ===== faults taken back ===== -/
section SLaw7
set_option maxRecDepth 100000 in
set_option maxHeartbeats 4000000 in
theorem c_L_back (l : Launch) (hfl : l.flags = flags0) (D : sD) (B : Nat) (ad : Nat → Nat) (κ : sQ) (sz : Nat) (x : Nat) (hx0 : x < 2 ^ 31) (τ : sQ) (n : Nat) (hR : sRel κ τ n) : vx_Met l yL_back wsL_back ({ frames := 9, cells := 20, slots := 120, locals := 164 } : Room) (sPz D B (CW D ad κ) sz ([.ref (ad 0), .int (nI x)] : List Value)) (va_Qi (S := Unit) (fun rr _ => rr = 1) (fun _ t => va_P D.1 vwCl (CW D ad (bkA (bkB (bkA κ n) n (nI (500 + x % 1001))) n)) t.heap) (rA 68 ad sz)) (fun _ _ _ => False) 20 120 (rA 68 ad sz) := by
  refine s_headX (cc := cL_back) (maxL := 9) (ret := (some .boolean)) (by decide +kernel) rfl (Nat.le_of_ble_eq_true rfl) ?_
  intro p e s m below meth c hx hb hr hlk hml hown hno hts hB0 ls hl
  obtain ⟨hsz, hJ⟩ := hB0
  subst hsz
  have hown : s.vm.findClass RL = some m.cls := hown
  have hl : lv_has ls 9 [(0, .ref (ad 0)), (1, .int (nI x))] := hl
  have hS := rS.start (n := 68) (ad := ad) hJ.nil
  have hAd : ∀ k, k < 68 → rA 68 ad s.heap.size (ad k) := fun k hk => Or.inl ⟨k, hk, rfl⟩
  have hn60 := hR.1.1
  have hf : 500 ≤ nI (500 + x % 1001) ∧ nI (500 + x % 1001) ≤ 1500 := in_l (l := 500) (m := 1500) (by decide +kernel) (by decide +kernel) (by omega) (by omega) (by omega)
  have hA := bk_A hR
  have hB := bk_B hA hf
  have hC := bk_C hR hf
  refine lv_aload_n hx hb dL_back_0 rfl (lv_at hl 0 rfl) ?_
  refine s_ciV (As := []) (rest := []) ⟨hx, hb, hml, hown, hts⟩ (c_X3_entries l D B ad κ ) (cwV 0 hts gL_back_X3_entries rfl rfl rfl hdV_X3_entries ⟨Nat.le_of_ble_eq_true rfl, Nat.le_of_ble_eq_true rfl⟩) (sPV hS.1.left (ci := 3) (q0 := 0) rfl rfl) rfl hl.1 rfl (Nat.le_of_ble_eq_true rfl) dL_back_1 ⟨Nat.le_of_ble_eq_true rfl, Nat.le_of_ble_eq_true rfl⟩ ?_
  refine lv_topi (fun zz ezz => ?_)
  obtain rfl : zz = nI n := ezz.trans (hR.1.2.1)
  refine lv_istore_n (lv' := [(2, .int (nI n)), (0, .ref (ad 0)), (1, .int (nI x))]) hx hb dL_back_4 rfl hl (by decide) rfl (fun ls hl => ?_)
  refine lv_aload_n hx hb dL_back_5 rfl (lv_at hl 1 rfl) ?_
  refine lv_sipush (v := 1000) hx hb dL_back_6 (by decide +kernel) ?_
  refine lv_iconst (v := 0) hx hb dL_back_9 (by decide +kernel) ?_
  refine lv_iconst (v := 0) hx hb dL_back_10 (by decide +kernel) ?_
  refine l_mt (vx_runSX (hh := [(0, 7, 8, 13)]) (As := [.ref (ad 0), .int 1000, .int 0, .int 0]) (rest := []) ⟨hx, hb, hml, hown, hts⟩ (h_faults l hfl D B ad κ s.heap.size 1000 0 0 n hR.1.2.1 hR.1.1 (rel_kOk hR)) (vx_cwSW 4 hts gL_back_L_faults rfl rfl rfl hdS_L_faults ⟨Nat.le_of_ble_eq_true rfl, Nat.le_of_ble_eq_true rfl⟩) (sPSz hS.1.left) rfl rfl hl.1 rfl (lv_room (Nat.le_of_ble_eq_true rfl)) dL_back_11 ⟨Nat.le_of_ble_eq_true rfl, Nat.le_of_ble_eq_true rfl⟩) hS hAd ((oV_t ⟨by decide +kernel, by decide +kernel, by decide +kernel⟩ : oV (((500 ≤ (1000 : Int32) ∧ (1000 : Int32) ≤ 1500) ∧ ((-20) ≤ (0 : Int32) ∧ (0 : Int32) ≤ 20) ∧ ((-20) ≤ (0 : Int32) ∧ (0 : Int32) ≤ 20))) (κ 0 1) (-2000000002) = κ 0 1)) (fun H locs hS => ?_)
  rw [show (if ((500 ≤ (1000 : Int32) ∧ (1000 : Int32) ≤ 1500) ∧ ((-20) ≤ (0 : Int32) ∧ (0 : Int32) ≤ 20) ∧ ((-20) ≤ (0 : Int32) ∧ (0 : Int32) ≤ 20)) then (kAll (kF κ (1000 : Int32) (0 : Int32) (0 : Int32)) n) else κ) = bkA κ n from if_pos ⟨by decide +kernel, by decide +kernel, by decide +kernel⟩] at hS
  refine lv_istore_n (lv' := [(3, .int (κ 0 1)), (2, .int (nI n)), (0, .ref (ad 0)), (1, .int (nI x))]) hx hb dL_back_14 rfl hl (by decide) rfl (fun ls hl => ?_)
  have j26 : ∀ (i : Nat) (hi : n = 0 ∨ i < n) (H : Heap) (locs : List Loc) (ls : Array Slot), rS D B (rA 68 ad s.heap.size) (CW D ad (bkA κ n) ++ []) s H locs → lv_has ls 9 [(3, .int (κ 0 1)), (2, .int (nI n)), (0, .ref (ad 0)), (1, .int (nI x))] → W p l e ({ frames := 9, cells := 20, slots := 120, locals := 164 } : Room) s m ([.ref (ad 0), .int (nI x)] : List Value).toArray below meth c H locs 3 18 (vx_MQ below (va_Qi (S := Unit) (fun rr _ => rr = 1) (fun _ t => va_P D.1 vwCl (CW D ad (bkA (bkB (bkA κ n) n (nI (500 + x % 1001))) n)) t.heap) (rA 68 ad s.heap.size)) (fun _ _ _ => False) ([.ref (ad 0), .int (nI x)] : List Value).toArray s 20 120 (rA 68 ad s.heap.size)) (F0 m 26 ls [.int (nI i)]) := by
    intro i hi H locs ls hS hl
    refine lv_istore (lv' := [(4, .int (nI i)), (3, .int (κ 0 1)), (2, .int (nI n)), (0, .ref (ad 0)), (1, .int (nI x))]) hx hb dL_back_26 hl (by decide) rfl (fun ls hl => ?_)
    have j42 : ∀ (sp : Int32) (hsp : n = 0 ∨ sp = bkA κ n 9 i) (H : Heap) (locs : List Loc) (ls : Array Slot), rS D B (rA 68 ad s.heap.size) (CW D ad (bkA κ n) ++ []) s H locs → lv_has ls 9 [(4, .int (nI i)), (3, .int (κ 0 1)), (2, .int (nI n)), (0, .ref (ad 0)), (1, .int (nI x))] → W p l e ({ frames := 9, cells := 20, slots := 120, locals := 164 } : Room) s m ([.ref (ad 0), .int (nI x)] : List Value).toArray below meth c H locs 4 24 (vx_MQ below (va_Qi (S := Unit) (fun rr _ => rr = 1) (fun _ t => va_P D.1 vwCl (CW D ad (bkA (bkB (bkA κ n) n (nI (500 + x % 1001))) n)) t.heap) (rA 68 ad s.heap.size)) (fun _ _ _ => False) ([.ref (ad 0), .int (nI x)] : List Value).toArray s 20 120 (rA 68 ad s.heap.size)) (F0 m 42 ls [.int sp]) := by
      intro sp hsp H locs ls hS hl
      refine lv_istore (lv' := [(5, .int sp), (4, .int (nI i)), (3, .int (κ 0 1)), (2, .int (nI n)), (0, .ref (ad 0)), (1, .int (nI x))]) hx hb dL_back_42 hl (by decide) rfl (fun ls hl => ?_)
      have j58 : ∀ (an : Int32) (han : n = 0 ∨ an = bkA κ n 12 i) (H : Heap) (locs : List Loc) (ls : Array Slot), rS D B (rA 68 ad s.heap.size) (CW D ad (bkA κ n) ++ []) s H locs → lv_has ls 9 [(5, .int sp), (4, .int (nI i)), (3, .int (κ 0 1)), (2, .int (nI n)), (0, .ref (ad 0)), (1, .int (nI x))] → W p l e ({ frames := 9, cells := 20, slots := 120, locals := 164 } : Room) s m ([.ref (ad 0), .int (nI x)] : List Value).toArray below meth c H locs 5 30 (vx_MQ below (va_Qi (S := Unit) (fun rr _ => rr = 1) (fun _ t => va_P D.1 vwCl (CW D ad (bkA (bkB (bkA κ n) n (nI (500 + x % 1001))) n)) t.heap) (rA 68 ad s.heap.size)) (fun _ _ _ => False) ([.ref (ad 0), .int (nI x)] : List Value).toArray s 20 120 (rA 68 ad s.heap.size)) (F0 m 58 ls [.int an]) := by
        intro an han H locs ls hS hl
        refine lv_istore (lv' := [(6, .int an), (5, .int sp), (4, .int (nI i)), (3, .int (κ 0 1)), (2, .int (nI n)), (0, .ref (ad 0)), (1, .int (nI x))]) hx hb dL_back_58 hl (by decide) rfl (fun ls hl => ?_)
        have j75 : ∀ (ea : Int32) (hea : n = 0 ∨ ea = (fd6 (wayS (bkA κ n 4) (bkA κ n 9) (bkA κ n 10) (bkA κ n 2) (bkA κ n 3) 0 (iN (nI (n - 1))))).toInt32) (H : Heap) (locs : List Loc) (ls : Array Slot), rS D B (rA 68 ad s.heap.size) (CW D ad (bkA κ n) ++ []) s H locs → lv_has ls 9 [(6, .int an), (5, .int sp), (4, .int (nI i)), (3, .int (κ 0 1)), (2, .int (nI n)), (0, .ref (ad 0)), (1, .int (nI x))] → W p l e ({ frames := 9, cells := 20, slots := 120, locals := 164 } : Room) s m ([.ref (ad 0), .int (nI x)] : List Value).toArray below meth c H locs 6 36 (vx_MQ below (va_Qi (S := Unit) (fun rr _ => rr = 1) (fun _ t => va_P D.1 vwCl (CW D ad (bkA (bkB (bkA κ n) n (nI (500 + x % 1001))) n)) t.heap) (rA 68 ad s.heap.size)) (fun _ _ _ => False) ([.ref (ad 0), .int (nI x)] : List Value).toArray s 20 120 (rA 68 ad s.heap.size)) (F0 m 75 ls [.int ea]) := by
          intro ea hea H locs ls hS hl
          refine lv_istore (lv' := [(7, .int ea), (6, .int an), (5, .int sp), (4, .int (nI i)), (3, .int (κ 0 1)), (2, .int (nI n)), (0, .ref (ad 0)), (1, .int (nI x))]) hx hb dL_back_75 hl (by decide) rfl (fun ls hl => ?_)
          refine lv_iload_n hx hb dL_back_77 rfl (lv_at hl 4 rfl) ?_
          refine lv_sipush (v := 500) hx hb dL_back_78 (by decide +kernel) ?_
          refine lv_icmp_lt (tgt := 168) hx hb dL_back_81 (by decide) (fun c81 => absurd c81 (fun q => by have h := (rel_fa hR).1; rw [i32_le] at h; rw [i32_lt] at q; omega)) (fun c81 => ?_)
          refine lv_iload_n hx hb dL_back_84 rfl (lv_at hl 4 rfl) ?_
          refine lv_sipush (v := 1500) hx hb dL_back_85 (by decide +kernel) ?_
          refine lv_icmp_gt (tgt := 168) hx hb dL_back_88 (by decide) (fun c88 => absurd c88 (fun q => by have h := (rel_fa hR).2; rw [i32_le] at h; rw [i32_lt] at q; omega)) (fun c88 => ?_)
          refine lv_aload_n hx hb dL_back_91 rfl (lv_at hl 6 rfl) ?_
          refine lv_sipush (v := 500) hx hb dL_back_92 (by decide +kernel) ?_
          refine lv_iload_n hx hb dL_back_95 rfl (lv_at hl 7 rfl) ?_
          refine lv_sipush (v := 1001) hx hb dL_back_96 (by decide +kernel) ?_
          refine lv_irem hx hb dL_back_99 (by decide +kernel) ?_
          refine lv_topi (fun zz ezz => ?_)
          obtain rfl : zz = nI (x % 1001) := ezz.trans (rem_k (by decide +kernel) (by omega) (by omega))
          refine lv_iadd hx hb dL_back_100 ?_
          refine lv_topi (fun zz ezz => ?_)
          obtain rfl : zz = nI (500 + (x % 1001)) := ezz.trans (add_l (by decide +kernel))
          refine lv_bipush (v := 20) hx hb dL_back_101 (by decide +kernel) ?_
          refine lv_bipush (v := (-20)) hx hb dL_back_103 (by decide +kernel) ?_
          refine l_mt (vx_runSX (hh := [(0, 7, 8, 13)]) (As := [.ref (ad 0), .int (nI (500 + (x % 1001))), .int 20, .int (-20)]) (rest := []) ⟨hx, hb, hml, hown, hts⟩ (h_faults l hfl D B ad (bkA κ n) H.size (nI (500 + (x % 1001))) 20 (-20) n hA.1.2.1 hA.1.1 (rel_kOk hA)) (vx_cwSW 4 hts gL_back_L_faults rfl rfl rfl hdS_L_faults ⟨Nat.le_of_ble_eq_true rfl, Nat.le_of_ble_eq_true rfl⟩) (sPSz hS.1.left) rfl rfl hl.1 rfl (lv_room (Nat.le_of_ble_eq_true rfl)) dL_back_105 ⟨Nat.le_of_ble_eq_true rfl, Nat.le_of_ble_eq_true rfl⟩) hS hAd (((oV_t ⟨hf, by decide +kernel, by decide +kernel⟩).trans (bkA_1 hR) : oV (((500 ≤ (nI (500 + (x % 1001))) ∧ (nI (500 + (x % 1001))) ≤ 1500) ∧ ((-20) ≤ (20 : Int32) ∧ (20 : Int32) ≤ 20) ∧ ((-20) ≤ (-20 : Int32) ∧ (-20 : Int32) ≤ 20))) ((bkA κ n) 0 1) (-2000000002) = 1000)) (fun H locs hS => ?_)
          rw [show (if ((500 ≤ (nI (500 + (x % 1001))) ∧ (nI (500 + (x % 1001))) ≤ 1500) ∧ ((-20) ≤ (20 : Int32) ∧ (20 : Int32) ≤ 20) ∧ ((-20) ≤ (-20 : Int32) ∧ (-20 : Int32) ≤ 20)) then (kAll (kF (bkA κ n) (nI (500 + (x % 1001))) (20 : Int32) (-20 : Int32)) n) else (bkA κ n)) = bkB (bkA κ n) n (nI (500 + x % 1001)) from if_pos ⟨hf, by decide +kernel, by decide +kernel⟩] at hS
          refine lv_sipush (v := 1000) hx hb dL_back_108 (by decide +kernel) ?_
          refine lv_icmp_ne (tgt := 168) hx hb dL_back_111 (by decide) (fun c111 => absurd (rfl) c111) (fun c111 => ?_)
          have j143 : ∀ (H : Heap) (locs : List Loc) (ls : Array Slot), rS D B (rA 68 ad s.heap.size) (CW D ad (bkB (bkA κ n) n (nI (500 + x % 1001))) ++ []) s H locs → lv_has ls 9 [(7, .int ea), (6, .int an), (5, .int sp), (4, .int (nI i)), (3, .int (κ 0 1)), (2, .int (nI n)), (0, .ref (ad 0)), (1, .int (nI x))] → W p l e ({ frames := 9, cells := 20, slots := 120, locals := 164 } : Room) s m ([.ref (ad 0), .int (nI x)] : List Value).toArray below meth c H locs 10 60 (vx_MQ below (va_Qi (S := Unit) (fun rr _ => rr = 1) (fun _ t => va_P D.1 vwCl (CW D ad (bkA (bkB (bkA κ n) n (nI (500 + x % 1001))) n)) t.heap) (rA 68 ad s.heap.size)) (fun _ _ _ => False) ([.ref (ad 0), .int (nI x)] : List Value).toArray s 20 120 (rA 68 ad s.heap.size)) (F0 m 143 ls []) := by
            intro  H locs ls hS hl
            refine lv_aload_n hx hb dL_back_143 rfl (lv_at hl 6 rfl) ?_
            refine lv_sipush (v := 1000) hx hb dL_back_144 (by decide +kernel) ?_
            refine lv_iconst (v := 0) hx hb dL_back_147 (by decide +kernel) ?_
            refine lv_iconst (v := 0) hx hb dL_back_148 (by decide +kernel) ?_
            refine l_mt (vx_runSX (hh := [(0, 7, 8, 13)]) (As := [.ref (ad 0), .int 1000, .int 0, .int 0]) (rest := []) ⟨hx, hb, hml, hown, hts⟩ (h_faults l hfl D B ad (bkB (bkA κ n) n (nI (500 + x % 1001))) H.size 1000 0 0 n hB.1.2.1 hB.1.1 (rel_kOk hB)) (vx_cwSW 4 hts gL_back_L_faults rfl rfl rfl hdS_L_faults ⟨Nat.le_of_ble_eq_true rfl, Nat.le_of_ble_eq_true rfl⟩) (sPSz hS.1.left) rfl rfl hl.1 rfl (lv_room (Nat.le_of_ble_eq_true rfl)) dL_back_149 ⟨Nat.le_of_ble_eq_true rfl, Nat.le_of_ble_eq_true rfl⟩) hS hAd (((oV_t ⟨by decide +kernel, by decide +kernel, by decide +kernel⟩).trans (bkB_1 hA hf) : oV (((500 ≤ (1000 : Int32) ∧ (1000 : Int32) ≤ 1500) ∧ ((-20) ≤ (0 : Int32) ∧ (0 : Int32) ≤ 20) ∧ ((-20) ≤ (0 : Int32) ∧ (0 : Int32) ≤ 20))) ((bkB (bkA κ n) n (nI (500 + x % 1001))) 0 1) (-2000000002) = nI (500 + x % 1001))) (fun H locs hS => ?_)
            rw [show (if ((500 ≤ (1000 : Int32) ∧ (1000 : Int32) ≤ 1500) ∧ ((-20) ≤ (0 : Int32) ∧ (0 : Int32) ≤ 20) ∧ ((-20) ≤ (0 : Int32) ∧ (0 : Int32) ≤ 20)) then (kAll (kF (bkB (bkA κ n) n (nI (500 + x % 1001))) (1000 : Int32) (0 : Int32) (0 : Int32)) n) else (bkB (bkA κ n) n (nI (500 + x % 1001)))) = bkA (bkB (bkA κ n) n (nI (500 + x % 1001))) n from if_pos ⟨by decide +kernel, by decide +kernel, by decide +kernel⟩] at hS
            refine lv_sipush (v := 500) hx hb dL_back_152 (by decide +kernel) ?_
            refine lv_iload_n hx hb dL_back_155 rfl (lv_at hl 7 rfl) ?_
            refine lv_sipush (v := 1001) hx hb dL_back_156 (by decide +kernel) ?_
            refine lv_irem hx hb dL_back_159 (by decide +kernel) ?_
            refine lv_topi (fun zz ezz => ?_)
            obtain rfl : zz = nI (x % 1001) := ezz.trans (rem_k (by decide +kernel) (by omega) (by omega))
            refine lv_iadd hx hb dL_back_160 ?_
            refine lv_topi (fun zz ezz => ?_)
            obtain rfl : zz = nI (500 + (x % 1001)) := ezz.trans (add_l (by decide +kernel))
            refine lv_icmp_ne (tgt := 168) hx hb dL_back_161 (by decide) (fun c161 => absurd (rfl) c161) (fun c161 => ?_)
            refine lv_iconst (v := 1) hx hb dL_back_164 (by decide +kernel) ?_
            refine lv_goto (tgt := 169) hx hb dL_back_165 (by decide) ?_
            refine lv_istore (lv' := [(8, .int 1), (7, .int ea), (6, .int an), (5, .int sp), (4, .int (nI i)), (3, .int (κ 0 1)), (2, .int (nI n)), (0, .ref (ad 0)), (1, .int (nI x))]) hx hb dL_back_169 hl (by decide) rfl (fun ls hl => ?_)
            refine lv_iload hx hb dL_back_171 (lv_at hl 0 rfl) ?_
            refine lv_if_eq (tgt := 218) hx hb dL_back_173 (by decide) (fun c173 => absurd c173 (by decide +kernel)) (fun c173 => ?_)
            have j214 : ∀ (H : Heap) (locs : List Loc) (ls : Array Slot), rS D B (rA 68 ad s.heap.size) (CW D ad (bkA (bkB (bkA κ n) n (nI (500 + x % 1001))) n) ++ []) s H locs → lv_has ls 9 [(8, .int 1), (7, .int ea), (6, .int an), (5, .int sp), (4, .int (nI i)), (3, .int (κ 0 1)), (2, .int (nI n)), (0, .ref (ad 0)), (1, .int (nI x))] → W p l e ({ frames := 9, cells := 20, slots := 120, locals := 164 } : Room) s m ([.ref (ad 0), .int (nI x)] : List Value).toArray below meth c H locs 16 96 (vx_MQ below (va_Qi (S := Unit) (fun rr _ => rr = 1) (fun _ t => va_P D.1 vwCl (CW D ad (bkA (bkB (bkA κ n) n (nI (500 + x % 1001))) n)) t.heap) (rA 68 ad s.heap.size)) (fun _ _ _ => False) ([.ref (ad 0), .int (nI x)] : List Value).toArray s 20 120 (rA 68 ad s.heap.size)) (F0 m 214 ls []) := by
              intro  H locs ls hS hl
              refine lv_iconst (v := 1) hx hb dL_back_214 (by decide +kernel) ?_
              refine lv_goto (tgt := 219) hx hb dL_back_215 (by decide) ?_
              exact l_mzret hx hb hr hlk dL_back_219 (Or.inr rfl) (rfl) (rfl) hS (Nat.le_of_ble_eq_true rfl) (Nat.le_of_ble_eq_true rfl)
            refine lv_iload_n hx hb dL_back_176 rfl (lv_at hl 6 rfl) ?_
            refine lv_if_eq (tgt := 214) hx hb dL_back_177 (by decide) (fun c177 => ?_) (fun c177 => ?_)
            ·
              refine W.widen (k := 16) (n := 96) (by omega) (by omega) ?_
              exact j214  _ _ _ hS (lv_sub hl [0, 1, 2, 3, 4, 5, 6, 7, 8] rfl)
            ·
              have hin : i < n := hi.resolve_left (fun q => c177 (by rw [q]; rfl))
              refine lv_aload_n hx hb dL_back_180 rfl (lv_at hl 7 rfl) ?_
              refine lv_iload hx hb dL_back_181 (lv_at hl 4 rfl) ?_
              refine l_rd (vx_runSX (hh := [(0, 5, 6, 26)]) (As := [.ref (ad 0), .int (nI i)]) (rest := []) ⟨hx, hb, hml, hown, hts⟩ (h_speed l hfl D B ad (bkA (bkB (bkA κ n) n (nI (500 + x % 1001))) n) H.size (nI i) n hC.1.2.1 hC.1.1) (vx_cwSW 2 hts gL_back_L_speed rfl rfl rfl hdS_L_speed ⟨Nat.le_of_ble_eq_true rfl, Nat.le_of_ble_eq_true rfl⟩) (sPSz hS.1.left) rfl rfl hl.1 rfl (lv_room (Nat.le_of_ble_eq_true rfl)) dL_back_183 ⟨Nat.le_of_ble_eq_true rfl, Nat.le_of_ble_eq_true rfl⟩) hS (((oV_t (ok_k hC.1.2.1 hC.1.1 hin)).trans (by rw [iN_k (by omega), (bk_same hR hf hin).1, hsp.resolve_left (by omega)]) : oV ((0 ≤ (nI i) ∧ (nI i) ≤ ((bkA (bkB (bkA κ n) n (nI (500 + x % 1001))) n) 0 0 - 1))) ((bkA (bkB (bkA κ n) n (nI (500 + x % 1001))) n) 9 (iN (nI i))) (-2000000001) = sp)) (fun H locs hS => ?_)
              refine lv_iload hx hb dL_back_186 (lv_at hl 3 rfl) ?_
              refine lv_icmp_ne (tgt := 218) hx hb dL_back_188 (by decide) (fun c188 => absurd (rfl) c188) (fun c188 => ?_)
              refine lv_aload_n hx hb dL_back_191 rfl (lv_at hl 7 rfl) ?_
              refine lv_iload hx hb dL_back_192 (lv_at hl 4 rfl) ?_
              refine l_rd (vx_runSX (hh := [(0, 5, 6, 26)]) (As := [.ref (ad 0), .int (nI i)]) (rest := []) ⟨hx, hb, hml, hown, hts⟩ (h_angle l hfl D B ad (bkA (bkB (bkA κ n) n (nI (500 + x % 1001))) n) H.size (nI i) n hC.1.2.1 hC.1.1) (vx_cwSW 2 hts gL_back_L_angle rfl rfl rfl hdS_L_angle ⟨Nat.le_of_ble_eq_true rfl, Nat.le_of_ble_eq_true rfl⟩) (sPSz hS.1.left) rfl rfl hl.1 rfl (lv_room (Nat.le_of_ble_eq_true rfl)) dL_back_194 ⟨Nat.le_of_ble_eq_true rfl, Nat.le_of_ble_eq_true rfl⟩) hS (((oV_t (ok_k hC.1.2.1 hC.1.1 hin)).trans (by rw [iN_k (by omega), (bk_same hR hf hin).2, han.resolve_left (by omega)]) : oV ((0 ≤ (nI i) ∧ (nI i) ≤ ((bkA (bkB (bkA κ n) n (nI (500 + x % 1001))) n) 0 0 - 1))) ((bkA (bkB (bkA κ n) n (nI (500 + x % 1001))) n) 12 (iN (nI i))) (-2000000001) = an)) (fun H locs hS => ?_)
              refine lv_iload hx hb dL_back_197 (lv_at hl 2 rfl) ?_
              refine lv_icmp_ne (tgt := 218) hx hb dL_back_199 (by decide) (fun c199 => absurd (rfl) c199) (fun c199 => ?_)
              refine lv_aload_n hx hb dL_back_202 rfl (lv_at hl 7 rfl) ?_
              refine lv_iload_n hx hb dL_back_203 rfl (lv_at hl 6 rfl) ?_
              refine lv_iconst (v := 1) hx hb dL_back_204 (by decide +kernel) ?_
              refine lv_isub hx hb dL_back_205 ?_
              refine lv_topi (fun zz ezz => ?_)
              obtain rfl : zz = nI (n - 1) := ezz.trans (nI_pre (by omega))
              refine l_rd (vx_runSX (hh := [(0, 5, 6, 26)]) (As := [.ref (ad 0), .int (nI (n - 1))]) (rest := []) ⟨hx, hb, hml, hown, hts⟩ (h_east l hfl D B ad (bkA (bkB (bkA κ n) n (nI (500 + x % 1001))) n) H.size (nI (n - 1)) n hC.1.2.1 hC.1.1 (rel_mi hC)) (vx_cwSW 2 hts gL_back_L_east rfl rfl rfl hdS_L_east ⟨Nat.le_of_ble_eq_true rfl, Nat.le_of_ble_eq_true rfl⟩) (sPSz hS.1.left) rfl rfl hl.1 rfl (lv_room (Nat.le_of_ble_eq_true rfl)) dL_back_206 ⟨Nat.le_of_ble_eq_true rfl, Nat.le_of_ble_eq_true rfl⟩) hS (((oV_t (ok_k hC.1.2.1 hC.1.1 (show n - 1 < n by omega))).trans ((bk_way hR hf (ok_k rfl hn60 (show n - 1 < n by omega)) 0).trans (hea.resolve_left (by omega)).symm) : oV ((0 ≤ (nI (n - 1)) ∧ (nI (n - 1)) ≤ ((bkA (bkB (bkA κ n) n (nI (500 + x % 1001))) n) 0 0 - 1))) ((fd6 (wayS ((bkA (bkB (bkA κ n) n (nI (500 + x % 1001))) n) 4) ((bkA (bkB (bkA κ n) n (nI (500 + x % 1001))) n) 9) ((bkA (bkB (bkA κ n) n (nI (500 + x % 1001))) n) 10) ((bkA (bkB (bkA κ n) n (nI (500 + x % 1001))) n) 2) ((bkA (bkB (bkA κ n) n (nI (500 + x % 1001))) n) 3) 0 (iN (nI (n - 1))))).toInt32) (-2000000001) = ea)) (fun H locs hS => ?_)
              refine lv_iload hx hb dL_back_209 (lv_at hl 1 rfl) ?_
              refine lv_icmp_ne (tgt := 218) hx hb dL_back_211 (by decide) (fun c211 => absurd (rfl) c211) (fun c211 => ?_)
              refine W.widen (k := 16) (n := 96) (by omega) (by omega) ?_
              exact j214  _ _ _ hS (lv_sub hl [0, 1, 2, 3, 4, 5, 6, 7, 8] rfl)
          refine lv_iload_n hx hb dL_back_114 rfl (lv_at hl 5 rfl) ?_
          refine lv_if_eq (tgt := 143) hx hb dL_back_115 (by decide) (fun c115 => ?_) (fun c115 => ?_)
          ·
            refine W.widen (k := 10) (n := 60) (by omega) (by omega) ?_
            exact j143  _ _ _ hS (lv_sub hl [0, 1, 2, 3, 4, 5, 6, 7] rfl)
          ·
            have hin : i < n := hi.resolve_left (fun q => c115 (by rw [q]; rfl))
            refine lv_aload_n hx hb dL_back_118 rfl (lv_at hl 6 rfl) ?_
            refine lv_iload hx hb dL_back_119 (lv_at hl 3 rfl) ?_
            refine l_rd (vx_runSX (hh := [(0, 5, 6, 26)]) (As := [.ref (ad 0), .int (nI i)]) (rest := []) ⟨hx, hb, hml, hown, hts⟩ (h_speed l hfl D B ad (bkB (bkA κ n) n (nI (500 + x % 1001))) H.size (nI i) n hB.1.2.1 hB.1.1) (vx_cwSW 2 hts gL_back_L_speed rfl rfl rfl hdS_L_speed ⟨Nat.le_of_ble_eq_true rfl, Nat.le_of_ble_eq_true rfl⟩) (sPSz hS.1.left) rfl rfl hl.1 rfl (lv_room (Nat.le_of_ble_eq_true rfl)) dL_back_121 ⟨Nat.le_of_ble_eq_true rfl, Nat.le_of_ble_eq_true rfl⟩) hS (((oV_t (ok_k hB.1.2.1 hB.1.1 hin)).trans (by rw [iN_k (by omega)]) : oV ((0 ≤ (nI i) ∧ (nI i) ≤ ((bkB (bkA κ n) n (nI (500 + x % 1001))) 0 0 - 1))) ((bkB (bkA κ n) n (nI (500 + x % 1001))) 9 (iN (nI i))) (-2000000001) = bkB (bkA κ n) n (nI (500 + x % 1001)) 9 i)) (fun H locs hS => ?_)
            refine lv_iload hx hb dL_back_124 (lv_at hl 2 rfl) ?_
            refine lv_sipush (v := 500) hx hb dL_back_126 (by decide +kernel) ?_
            refine lv_iload_n hx hb dL_back_129 rfl (lv_at hl 7 rfl) ?_
            refine lv_sipush (v := 1001) hx hb dL_back_130 (by decide +kernel) ?_
            refine lv_irem hx hb dL_back_133 (by decide +kernel) ?_
            refine lv_topi (fun zz ezz => ?_)
            obtain rfl : zz = nI (x % 1001) := ezz.trans (rem_k (by decide +kernel) (by omega) (by omega))
            refine lv_iadd hx hb dL_back_134 ?_
            refine lv_topi (fun zz ezz => ?_)
            obtain rfl : zz = nI (500 + (x % 1001)) := ezz.trans (add_l (by decide +kernel))
            refine lv_imul hx hb dL_back_135 ?_
            refine lv_sipush (v := 1000) hx hb dL_back_136 (by decide +kernel) ?_
            refine lv_idiv hx hb dL_back_139 (by decide +kernel) ?_
            refine lv_icmp_ne (tgt := 168) hx hb dL_back_140 (by decide) (fun c140 => absurd (by rw [bk_sp hR hf hin, hsp.resolve_left (by omega)]) c140) (fun c140 => ?_)
            refine W.widen (k := 10) (n := 60) (by omega) (by omega) ?_
            exact j143  _ _ _ hS (lv_sub hl [0, 1, 2, 3, 4, 5, 6, 7] rfl)
        refine lv_iload_n hx hb dL_back_60 rfl (lv_at hl 4 rfl) ?_
        refine lv_if_ne (tgt := 68) hx hb dL_back_61 (by decide) (fun c61 => ?_) (fun c61 => ?_)
        ·
          have hin : i < n := hi.resolve_left (fun q => c61 (by rw [q]; rfl))
          refine lv_aload_n hx hb dL_back_68 rfl (lv_at hl 5 rfl) ?_
          refine lv_iload_n hx hb dL_back_69 rfl (lv_at hl 4 rfl) ?_
          refine lv_iconst (v := 1) hx hb dL_back_70 (by decide +kernel) ?_
          refine lv_isub hx hb dL_back_71 ?_
          refine lv_topi (fun zz ezz => ?_)
          obtain rfl : zz = nI (n - 1) := ezz.trans (nI_pre (by omega))
          refine l_rd (vx_runSX (hh := [(0, 5, 6, 26)]) (As := [.ref (ad 0), .int (nI (n - 1))]) (rest := []) ⟨hx, hb, hml, hown, hts⟩ (h_east l hfl D B ad (bkA κ n) H.size (nI (n - 1)) n hA.1.2.1 hA.1.1 (rel_mi hA)) (vx_cwSW 2 hts gL_back_L_east rfl rfl rfl hdS_L_east ⟨Nat.le_of_ble_eq_true rfl, Nat.le_of_ble_eq_true rfl⟩) (sPSz hS.1.left) rfl rfl hl.1 rfl (lv_room (Nat.le_of_ble_eq_true rfl)) dL_back_72 ⟨Nat.le_of_ble_eq_true rfl, Nat.le_of_ble_eq_true rfl⟩) hS ((oV_t (ok_k hA.1.2.1 hA.1.1 (show n - 1 < n by omega)) : oV ((0 ≤ (nI (n - 1)) ∧ (nI (n - 1)) ≤ ((bkA κ n) 0 0 - 1))) ((fd6 (wayS ((bkA κ n) 4) ((bkA κ n) 9) ((bkA κ n) 10) ((bkA κ n) 2) ((bkA κ n) 3) 0 (iN (nI (n - 1))))).toInt32) (-2000000001) = (fd6 (wayS (bkA κ n 4) (bkA κ n 9) (bkA κ n 10) (bkA κ n 2) (bkA κ n 3) 0 (iN (nI (n - 1))))).toInt32)) (fun H locs hS => ?_)
          refine W.widen (k := 6) (n := 36) (by omega) (by omega) ?_
          exact j75 ((fd6 (wayS (bkA κ n 4) (bkA κ n 9) (bkA κ n 10) (bkA κ n 2) (bkA κ n 3) 0 (iN (nI (n - 1))))).toInt32) (Or.inr rfl) _ _ _ hS (lv_sub hl [0, 1, 2, 3, 4, 5, 6] rfl)
        ·
          refine lv_iconst (v := 0) hx hb dL_back_64 (by decide +kernel) ?_
          refine lv_goto (tgt := 75) hx hb dL_back_65 (by decide) ?_
          refine W.widen (k := 6) (n := 36) (by omega) (by omega) ?_
          exact j75 0 (Or.inl ((nI_z (by omega)).mp c61)) _ _ _ hS (lv_sub hl [0, 1, 2, 3, 4, 5, 6] rfl)
      refine lv_iload_n hx hb dL_back_44 rfl (lv_at hl 3 rfl) ?_
      refine lv_if_ne (tgt := 52) hx hb dL_back_45 (by decide) (fun c45 => ?_) (fun c45 => ?_)
      ·
        have hin : i < n := hi.resolve_left (fun q => c45 (by rw [q]; rfl))
        refine lv_aload_n hx hb dL_back_52 rfl (lv_at hl 4 rfl) ?_
        refine lv_iload hx hb dL_back_53 (lv_at hl 1 rfl) ?_
        refine l_rd (vx_runSX (hh := [(0, 5, 6, 26)]) (As := [.ref (ad 0), .int (nI i)]) (rest := []) ⟨hx, hb, hml, hown, hts⟩ (h_angle l hfl D B ad (bkA κ n) H.size (nI i) n hA.1.2.1 hA.1.1) (vx_cwSW 2 hts gL_back_L_angle rfl rfl rfl hdS_L_angle ⟨Nat.le_of_ble_eq_true rfl, Nat.le_of_ble_eq_true rfl⟩) (sPSz hS.1.left) rfl rfl hl.1 rfl (lv_room (Nat.le_of_ble_eq_true rfl)) dL_back_55 ⟨Nat.le_of_ble_eq_true rfl, Nat.le_of_ble_eq_true rfl⟩) hS (((oV_t (ok_k hA.1.2.1 hA.1.1 hin)).trans (by rw [iN_k (by omega)]) : oV ((0 ≤ (nI i) ∧ (nI i) ≤ ((bkA κ n) 0 0 - 1))) ((bkA κ n) 12 (iN (nI i))) (-2000000001) = bkA κ n 12 i)) (fun H locs hS => ?_)
        refine W.widen (k := 5) (n := 30) (by omega) (by omega) ?_
        exact j58 (bkA κ n 12 i) (Or.inr rfl) _ _ _ hS (lv_sub hl [0, 1, 2, 3, 4, 5] rfl)
      ·
        refine lv_iconst (v := 0) hx hb dL_back_48 (by decide +kernel) ?_
        refine lv_goto (tgt := 58) hx hb dL_back_49 (by decide) ?_
        refine W.widen (k := 5) (n := 30) (by omega) (by omega) ?_
        exact j58 0 (Or.inl ((nI_z (by omega)).mp c45)) _ _ _ hS (lv_sub hl [0, 1, 2, 3, 4, 5] rfl)
    refine lv_iload_n hx hb dL_back_28 rfl (lv_at hl 2 rfl) ?_
    refine lv_if_ne (tgt := 36) hx hb dL_back_29 (by decide) (fun c29 => ?_) (fun c29 => ?_)
    ·
      have hin : i < n := hi.resolve_left (fun q => c29 (by rw [q]; rfl))
      refine lv_aload_n hx hb dL_back_36 rfl (lv_at hl 3 rfl) ?_
      refine lv_iload hx hb dL_back_37 (lv_at hl 0 rfl) ?_
      refine l_rd (vx_runSX (hh := [(0, 5, 6, 26)]) (As := [.ref (ad 0), .int (nI i)]) (rest := []) ⟨hx, hb, hml, hown, hts⟩ (h_speed l hfl D B ad (bkA κ n) H.size (nI i) n hA.1.2.1 hA.1.1) (vx_cwSW 2 hts gL_back_L_speed rfl rfl rfl hdS_L_speed ⟨Nat.le_of_ble_eq_true rfl, Nat.le_of_ble_eq_true rfl⟩) (sPSz hS.1.left) rfl rfl hl.1 rfl (lv_room (Nat.le_of_ble_eq_true rfl)) dL_back_39 ⟨Nat.le_of_ble_eq_true rfl, Nat.le_of_ble_eq_true rfl⟩) hS (((oV_t (ok_k hA.1.2.1 hA.1.1 hin)).trans (by rw [iN_k (by omega)]) : oV ((0 ≤ (nI i) ∧ (nI i) ≤ ((bkA κ n) 0 0 - 1))) ((bkA κ n) 9 (iN (nI i))) (-2000000001) = bkA κ n 9 i)) (fun H locs hS => ?_)
      refine W.widen (k := 4) (n := 24) (by omega) (by omega) ?_
      exact j42 (bkA κ n 9 i) (Or.inr rfl) _ _ _ hS (lv_sub hl [0, 1, 2, 3, 4] rfl)
    ·
      refine lv_iconst (v := 0) hx hb dL_back_32 (by decide +kernel) ?_
      refine lv_goto (tgt := 42) hx hb dL_back_33 (by decide) ?_
      refine W.widen (k := 4) (n := 24) (by omega) (by omega) ?_
      exact j42 0 (Or.inl ((nI_z (by omega)).mp c29)) _ _ _ hS (lv_sub hl [0, 1, 2, 3, 4] rfl)
  refine lv_iload_n hx hb dL_back_15 rfl (lv_at hl 1 rfl) ?_
  refine lv_if_ne (tgt := 23) hx hb dL_back_16 (by decide) (fun c16 => ?_) (fun c16 => ?_)
  ·
    have hn0 : 0 < n := Nat.pos_of_ne_zero (fun q => c16 (by rw [q]; rfl))
    refine lv_iload_n hx hb dL_back_23 rfl (lv_at hl 3 rfl) ?_
    refine lv_iload_n hx hb dL_back_24 rfl (lv_at hl 1 rfl) ?_
    refine lv_irem hx hb dL_back_25 (c16) ?_
    refine lv_topi (fun zz ezz => ?_)
    obtain rfl : zz = nI (x % n) := ezz.trans (rem_k rfl (by omega) (by omega))
    refine W.widen (k := 3) (n := 18) (by omega) (by omega) ?_
    exact j26 (x % n) (Or.inr (Nat.mod_lt x hn0)) _ _ _ hS (lv_sub hl [0, 1, 2, 3] rfl)
  ·
    refine lv_iconst (v := 0) hx hb dL_back_19 (by decide +kernel) ?_
    refine lv_goto (tgt := 26) hx hb dL_back_20 (by decide) ?_
    refine W.widen (k := 3) (n := 18) (by omega) (by omega) ?_
    exact j26 0 (Or.inl ((nI_z (by omega)).mp c16)) _ _ _ hS (lv_sub hl [0, 1, 2, 3] rfl)
end SLaw7
