/-! ===== calls that throw ===== -/
section SLaw3
theorem no_kind {k : Nat} (h : 3 ≤ k) (hk : k < 2 ^ 30) : ¬ (nI k = 1 ∨ nI k = 2) := by
  rintro (q | q)
  · have := (nI_eq (a := k) (b := 1) (by omega) (by omega)).mp q
    omega
  · have := (nI_eq (a := k) (b := 2) (by omega) (by omega)).mp q
    omega
theorem ok_0 {c : Int32} {n : Nat} (hc : c = nI n) (hn : n ≤ 60) (h : 0 < n) : 0 ≤ (0 : Int32) ∧ 0 ≤ c - 1 := ok_k (k := 0) hc hn h
theorem iN_0 : iN 0 = 0 := by decide +kernel
theorem east_0 {a b c d e : Nat → Int32} {t : Int32} : (fd6 (wayS a b c d e t (iN 0))).toInt32 = 0 := by
  rw [iN_0]
  exact (by decide +kernel : (fd6 0).toInt32 = 0)
theorem turn_0 {a : Nat → Int32} : kindF a (iN 0) = 0 := by
  rw [iN_0]
  exact (kind_0 rfl).symm
theorem log_0 {κ τ : sQ} {n : Nat} (h : sRel κ τ n) (hn : 0 < n) : ¬ (n < 60 ∧ (n = 0 ∨ κ 4 (n - 1) < 0)) := by
  rintro ⟨-, q | q⟩
  · omega
  · obtain ⟨k, hk, e⟩ := rel_mi h (n - 1) (by omega)
    rw [e, i32_lt, nI_toInt (by omega), Int32.toInt_zero] at q
    omega
set_option maxRecDepth 100000 in
set_option maxHeartbeats 4000000 in
theorem c_L_refuses (l : Launch) (hfl : l.flags = flags0) (D : sD) (B : Nat) (ad : Nat → Nat) (κ : sQ) (sz : Nat) (k : Nat) (hk : k < 10000) (τ : sQ) (n : Nat) (hR : sRel κ τ n) : vx_Met l yL_refuses wsL_refuses ({ frames := 10, cells := 200, slots := 1200, locals := 171 } : Room) (sPz D B (CW D ad κ) sz ([.ref (ad 0), .int (nI k)] : List Value)) (va_Qi (S := Unit) (fun rr _ => rr = 1) (fun _ t => va_P D.1 vwCl (CW D ad κ) t.heap) (rA 68 ad sz)) (fun _ _ _ => False) 200 1200 (rA 68 ad sz) := by
  refine s_headX (cc := cL_refuses) (maxL := 5) (ret := (some .boolean)) (by decide +kernel) rfl (Nat.le_of_ble_eq_true rfl) ?_
  intro p e s m below meth c hx hb hr hlk hml hown hno hts hB0 ls hl
  obtain ⟨hsz, hJ⟩ := hB0
  subst hsz
  have hown : s.vm.findClass RL = some m.cls := hown
  have hl : lv_has ls 5 [(0, .ref (ad 0)), (1, .int (nI k))] := hl
  have hS := rS.start (n := 68) (ad := ad) hJ.nil
  have hAd : ∀ k, k < 68 → rA 68 ad s.heap.size (ad k) := fun k hk => Or.inl ⟨k, hk, rfl⟩
  have k15 : (Cond.constant RL 15 (-2000000002)).before ([.ref (ad 0), .int (nI k)] : List Value).toArray s = true := hts _ (by decide +kernel)
  have k28 : (Cond.constant RL 28 (-2000000001)).before ([.ref (ad 0), .int (nI k)] : List Value).toArray s = true := hts _ (by decide +kernel)
  have k18 : (Cond.constant RL 18 (-2000000003)).before ([.ref (ad 0), .int (nI k)] : List Value).toArray s = true := hts _ (by decide +kernel)
  have hn60 := hR.1.1
  have j24 : ∀ (nn : Int32) (hnn : ¬ (0 ≤ nn ∧ nn ≤ κ 0 0 - 1)) (H : Heap) (locs : List Loc) (ls : Array Slot), rS D B (rA 68 ad s.heap.size) (CW D ad κ ++ []) s H locs → lv_has ls 5 [(0, .ref (ad 0)), (1, .int (nI k))] → W p l e ({ frames := 10, cells := 200, slots := 1200, locals := 171 } : Room) s m ([.ref (ad 0), .int (nI k)] : List Value).toArray below meth c H locs 0 0 (vx_MQ below (va_Qi (S := Unit) (fun rr _ => rr = 1) (fun _ t => va_P D.1 vwCl (CW D ad κ) t.heap) (rA 68 ad s.heap.size)) (fun _ _ _ => False) ([.ref (ad 0), .int (nI k)] : List Value).toArray s 200 1200 (rA 68 ad s.heap.size)) (F0 m 24 ls [.int nn]) := by
    intro nn hnn H locs ls hS hl
    refine lv_istore_n (lv' := [(2, .int nn), (0, .ref (ad 0)), (1, .int (nI k))]) hx hb dL_refuses_24 rfl hl (by decide) rfl (fun ls hl => ?_)
    have j48 : ∀ (oo : Int32) (hoo : ¬ (0 ≤ oo ∧ oo ≤ 359)) (H : Heap) (locs : List Loc) (ls : Array Slot), rS D B (rA 68 ad s.heap.size) (CW D ad κ ++ []) s H locs → lv_has ls 5 [(2, .int nn), (0, .ref (ad 0)), (1, .int (nI k))] → W p l e ({ frames := 10, cells := 200, slots := 1200, locals := 171 } : Room) s m ([.ref (ad 0), .int (nI k)] : List Value).toArray below meth c H locs 0 0 (vx_MQ below (va_Qi (S := Unit) (fun rr _ => rr = 1) (fun _ t => va_P D.1 vwCl (CW D ad κ) t.heap) (rA 68 ad s.heap.size)) (fun _ _ _ => False) ([.ref (ad 0), .int (nI k)] : List Value).toArray s 200 1200 (rA 68 ad s.heap.size)) (F0 m 48 ls [.int oo]) := by
      intro oo hoo H locs ls hS hl
      refine lv_istore_n (lv' := [(3, .int oo), (2, .int nn), (0, .ref (ad 0)), (1, .int (nI k))]) hx hb dL_refuses_48 rfl hl (by decide) rfl (fun ls hl => ?_)
      refine lv_aload_n hx hb dL_refuses_49 rfl (lv_at hl 2 rfl) ?_
      refine lv_sipush (v := 1440) hx hb dL_refuses_50 (by decide +kernel) ?_
      refine lv_iload_n hx hb dL_refuses_53 rfl (lv_at hl 3 rfl) ?_
      refine lv_iadd hx hb dL_refuses_54 ?_
      refine lv_topi (fun zz ezz => ?_)
      obtain rfl : zz = nI (1440 + k) := ezz.trans (add_l (by decide +kernel))
      refine lv_iconst (v := 0) hx hb dL_refuses_55 (by decide +kernel) ?_
      refine lv_iconst (v := 0) hx hb dL_refuses_56 (by decide +kernel) ?_
      refine lv_iconst (v := 0) hx hb dL_refuses_57 (by decide +kernel) ?_
      refine lv_iconst (v := 0) hx hb dL_refuses_58 (by decide +kernel) ?_
      refine l_mt (vx_runSX (hh := [(0, 11, 12, 13), (0, 11, 17, 16)]) (As := [.ref (ad 0), .int (nI (1440 + k)), .int 0, .int 0, .int 0, .int 0]) (rest := []) ⟨hx, hb, hml, hown, hts⟩ (h_logs l hfl D B ad κ H.size (nI (1440 + k)) 0 0 0 0 n hR.1.2.1 hR.1.1 (rel_fa hR)) (vx_cwSW 6 hts gL_refuses_L_logs rfl rfl rfl hdS_L_logs ⟨Nat.le_of_ble_eq_true rfl, Nat.le_of_ble_eq_true rfl⟩) (sPSz hS.1.left) rfl rfl hl.1 rfl (lv_room (Nat.le_of_ble_eq_true rfl)) dL_refuses_59 ⟨Nat.le_of_ble_eq_true rfl, Nat.le_of_ble_eq_true rfl⟩) hS hAd ((oL_a (fun q => (no_hi (m := 1439) (by decide +kernel) (by omega) (by omega)) q.1) : oL ((0 ≤ (nI (1440 + k)) ∧ (nI (1440 + k)) ≤ 1439) ∧ (0 ≤ (0 : Int32) ∧ (0 : Int32) ≤ 300) ∧ (0 ≤ (0 : Int32) ∧ (0 : Int32) ≤ 359) ∧ (0 ≤ (0 : Int32) ∧ (0 : Int32) ≤ 600) ∧ (0 ≤ (0 : Int32) ∧ (0 : Int32) ≤ 359)) (n < 60 ∧ (n = 0 ∨ κ 4 (n - 1) < (nI (1440 + k)))) (nI n) (-2000000002) (-2000000003) = (-2000000002))) (fun H locs hS => ?_)
      rw [show (if (((0 ≤ (nI (1440 + k)) ∧ (nI (1440 + k)) ≤ 1439) ∧ (0 ≤ (0 : Int32) ∧ (0 : Int32) ≤ 300) ∧ (0 ≤ (0 : Int32) ∧ (0 : Int32) ≤ 359) ∧ (0 ≤ (0 : Int32) ∧ (0 : Int32) ≤ 600) ∧ (0 ≤ (0 : Int32) ∧ (0 : Int32) ≤ 359)) ∧ (n < 60 ∧ (n = 0 ∨ κ 4 (n - 1) < (nI (1440 + k))))) then (kLog κ n (nI (1440 + k)) (0 : Int32) (0 : Int32) (0 : Int32) (0 : Int32)) else κ) = κ from if_neg (fun q => (fun q => (no_hi (m := 1439) (by decide +kernel) (by omega) (by omega)) q.1) q.1)] at hS
      refine lv_ldc (own := RL) hx hb hown k15 dL_refuses_62 ?_
      refine lv_icmp_ne (tgt := 574) hx hb dL_refuses_64 (by decide) (fun c64 => absurd (rfl) c64) (fun c64 => ?_)
      refine lv_aload_n hx hb dL_refuses_67 rfl (lv_at hl 2 rfl) ?_
      refine lv_iconst (v := (-1)) hx hb dL_refuses_68 (by decide +kernel) ?_
      refine lv_iload_n hx hb dL_refuses_69 rfl (lv_at hl 3 rfl) ?_
      refine lv_isub hx hb dL_refuses_70 ?_
      refine lv_iconst (v := 0) hx hb dL_refuses_71 (by decide +kernel) ?_
      refine lv_iconst (v := 0) hx hb dL_refuses_72 (by decide +kernel) ?_
      refine lv_iconst (v := 0) hx hb dL_refuses_73 (by decide +kernel) ?_
      refine lv_iconst (v := 0) hx hb dL_refuses_74 (by decide +kernel) ?_
      refine l_mt (vx_runSX (hh := [(0, 11, 12, 13), (0, 11, 17, 16)]) (As := [.ref (ad 0), .int ((-1) - (nI k)), .int 0, .int 0, .int 0, .int 0]) (rest := []) ⟨hx, hb, hml, hown, hts⟩ (h_logs l hfl D B ad κ H.size ((-1) - (nI k)) 0 0 0 0 n hR.1.2.1 hR.1.1 (rel_fa hR)) (vx_cwSW 6 hts gL_refuses_L_logs rfl rfl rfl hdS_L_logs ⟨Nat.le_of_ble_eq_true rfl, Nat.le_of_ble_eq_true rfl⟩) (sPSz hS.1.left) rfl rfl hl.1 rfl (lv_room (Nat.le_of_ble_eq_true rfl)) dL_refuses_75 ⟨Nat.le_of_ble_eq_true rfl, Nat.le_of_ble_eq_true rfl⟩) hS hAd ((oL_a (fun q => (no_lo (D := -1) (Y := 0) (by decide +kernel) (by decide +kernel) (by omega) (by omega) (by omega)) q.1) : oL ((0 ≤ ((-1) - (nI k)) ∧ ((-1) - (nI k)) ≤ 1439) ∧ (0 ≤ (0 : Int32) ∧ (0 : Int32) ≤ 300) ∧ (0 ≤ (0 : Int32) ∧ (0 : Int32) ≤ 359) ∧ (0 ≤ (0 : Int32) ∧ (0 : Int32) ≤ 600) ∧ (0 ≤ (0 : Int32) ∧ (0 : Int32) ≤ 359)) (n < 60 ∧ (n = 0 ∨ κ 4 (n - 1) < ((-1) - (nI k)))) (nI n) (-2000000002) (-2000000003) = (-2000000002))) (fun H locs hS => ?_)
      rw [show (if (((0 ≤ ((-1) - (nI k)) ∧ ((-1) - (nI k)) ≤ 1439) ∧ (0 ≤ (0 : Int32) ∧ (0 : Int32) ≤ 300) ∧ (0 ≤ (0 : Int32) ∧ (0 : Int32) ≤ 359) ∧ (0 ≤ (0 : Int32) ∧ (0 : Int32) ≤ 600) ∧ (0 ≤ (0 : Int32) ∧ (0 : Int32) ≤ 359)) ∧ (n < 60 ∧ (n = 0 ∨ κ 4 (n - 1) < ((-1) - (nI k))))) then (kLog κ n ((-1) - (nI k)) (0 : Int32) (0 : Int32) (0 : Int32) (0 : Int32)) else κ) = κ from if_neg (fun q => (fun q => (no_lo (D := -1) (Y := 0) (by decide +kernel) (by decide +kernel) (by omega) (by omega) (by omega)) q.1) q.1)] at hS
      refine lv_ldc (own := RL) hx hb hown k15 dL_refuses_78 ?_
      refine lv_icmp_ne (tgt := 574) hx hb dL_refuses_80 (by decide) (fun c80 => absurd (rfl) c80) (fun c80 => ?_)
      refine lv_aload_n hx hb dL_refuses_83 rfl (lv_at hl 2 rfl) ?_
      refine lv_sipush (v := 1439) hx hb dL_refuses_84 (by decide +kernel) ?_
      refine lv_sipush (v := 301) hx hb dL_refuses_87 (by decide +kernel) ?_
      refine lv_iload_n hx hb dL_refuses_90 rfl (lv_at hl 3 rfl) ?_
      refine lv_iadd hx hb dL_refuses_91 ?_
      refine lv_topi (fun zz ezz => ?_)
      obtain rfl : zz = nI (301 + k) := ezz.trans (add_l (by decide +kernel))
      refine lv_iconst (v := 0) hx hb dL_refuses_92 (by decide +kernel) ?_
      refine lv_iconst (v := 0) hx hb dL_refuses_93 (by decide +kernel) ?_
      refine lv_iconst (v := 0) hx hb dL_refuses_94 (by decide +kernel) ?_
      refine l_mt (vx_runSX (hh := [(0, 11, 12, 13), (0, 11, 17, 16)]) (As := [.ref (ad 0), .int 1439, .int (nI (301 + k)), .int 0, .int 0, .int 0]) (rest := []) ⟨hx, hb, hml, hown, hts⟩ (h_logs l hfl D B ad κ H.size 1439 (nI (301 + k)) 0 0 0 n hR.1.2.1 hR.1.1 (rel_fa hR)) (vx_cwSW 6 hts gL_refuses_L_logs rfl rfl rfl hdS_L_logs ⟨Nat.le_of_ble_eq_true rfl, Nat.le_of_ble_eq_true rfl⟩) (sPSz hS.1.left) rfl rfl hl.1 rfl (lv_room (Nat.le_of_ble_eq_true rfl)) dL_refuses_95 ⟨Nat.le_of_ble_eq_true rfl, Nat.le_of_ble_eq_true rfl⟩) hS hAd ((oL_a (fun q => (no_hi (m := 300) (by decide +kernel) (by omega) (by omega)) q.2.1) : oL ((0 ≤ (1439 : Int32) ∧ (1439 : Int32) ≤ 1439) ∧ (0 ≤ (nI (301 + k)) ∧ (nI (301 + k)) ≤ 300) ∧ (0 ≤ (0 : Int32) ∧ (0 : Int32) ≤ 359) ∧ (0 ≤ (0 : Int32) ∧ (0 : Int32) ≤ 600) ∧ (0 ≤ (0 : Int32) ∧ (0 : Int32) ≤ 359)) (n < 60 ∧ (n = 0 ∨ κ 4 (n - 1) < (1439 : Int32))) (nI n) (-2000000002) (-2000000003) = (-2000000002))) (fun H locs hS => ?_)
      rw [show (if (((0 ≤ (1439 : Int32) ∧ (1439 : Int32) ≤ 1439) ∧ (0 ≤ (nI (301 + k)) ∧ (nI (301 + k)) ≤ 300) ∧ (0 ≤ (0 : Int32) ∧ (0 : Int32) ≤ 359) ∧ (0 ≤ (0 : Int32) ∧ (0 : Int32) ≤ 600) ∧ (0 ≤ (0 : Int32) ∧ (0 : Int32) ≤ 359)) ∧ (n < 60 ∧ (n = 0 ∨ κ 4 (n - 1) < (1439 : Int32)))) then (kLog κ n (1439 : Int32) (nI (301 + k)) (0 : Int32) (0 : Int32) (0 : Int32)) else κ) = κ from if_neg (fun q => (fun q => (no_hi (m := 300) (by decide +kernel) (by omega) (by omega)) q.2.1) q.1)] at hS
      refine lv_ldc (own := RL) hx hb hown k15 dL_refuses_98 ?_
      refine lv_icmp_ne (tgt := 574) hx hb dL_refuses_100 (by decide) (fun c100 => absurd (rfl) c100) (fun c100 => ?_)
      refine lv_aload_n hx hb dL_refuses_103 rfl (lv_at hl 2 rfl) ?_
      refine lv_sipush (v := 1439) hx hb dL_refuses_104 (by decide +kernel) ?_
      refine lv_iconst (v := (-1)) hx hb dL_refuses_107 (by decide +kernel) ?_
      refine lv_iload_n hx hb dL_refuses_108 rfl (lv_at hl 3 rfl) ?_
      refine lv_isub hx hb dL_refuses_109 ?_
      refine lv_iconst (v := 0) hx hb dL_refuses_110 (by decide +kernel) ?_
      refine lv_iconst (v := 0) hx hb dL_refuses_111 (by decide +kernel) ?_
      refine lv_iconst (v := 0) hx hb dL_refuses_112 (by decide +kernel) ?_
      refine l_mt (vx_runSX (hh := [(0, 11, 12, 13), (0, 11, 17, 16)]) (As := [.ref (ad 0), .int 1439, .int ((-1) - (nI k)), .int 0, .int 0, .int 0]) (rest := []) ⟨hx, hb, hml, hown, hts⟩ (h_logs l hfl D B ad κ H.size 1439 ((-1) - (nI k)) 0 0 0 n hR.1.2.1 hR.1.1 (rel_fa hR)) (vx_cwSW 6 hts gL_refuses_L_logs rfl rfl rfl hdS_L_logs ⟨Nat.le_of_ble_eq_true rfl, Nat.le_of_ble_eq_true rfl⟩) (sPSz hS.1.left) rfl rfl hl.1 rfl (lv_room (Nat.le_of_ble_eq_true rfl)) dL_refuses_113 ⟨Nat.le_of_ble_eq_true rfl, Nat.le_of_ble_eq_true rfl⟩) hS hAd ((oL_a (fun q => (no_lo (D := -1) (Y := 0) (by decide +kernel) (by decide +kernel) (by omega) (by omega) (by omega)) q.2.1) : oL ((0 ≤ (1439 : Int32) ∧ (1439 : Int32) ≤ 1439) ∧ (0 ≤ ((-1) - (nI k)) ∧ ((-1) - (nI k)) ≤ 300) ∧ (0 ≤ (0 : Int32) ∧ (0 : Int32) ≤ 359) ∧ (0 ≤ (0 : Int32) ∧ (0 : Int32) ≤ 600) ∧ (0 ≤ (0 : Int32) ∧ (0 : Int32) ≤ 359)) (n < 60 ∧ (n = 0 ∨ κ 4 (n - 1) < (1439 : Int32))) (nI n) (-2000000002) (-2000000003) = (-2000000002))) (fun H locs hS => ?_)
      rw [show (if (((0 ≤ (1439 : Int32) ∧ (1439 : Int32) ≤ 1439) ∧ (0 ≤ ((-1) - (nI k)) ∧ ((-1) - (nI k)) ≤ 300) ∧ (0 ≤ (0 : Int32) ∧ (0 : Int32) ≤ 359) ∧ (0 ≤ (0 : Int32) ∧ (0 : Int32) ≤ 600) ∧ (0 ≤ (0 : Int32) ∧ (0 : Int32) ≤ 359)) ∧ (n < 60 ∧ (n = 0 ∨ κ 4 (n - 1) < (1439 : Int32)))) then (kLog κ n (1439 : Int32) ((-1) - (nI k)) (0 : Int32) (0 : Int32) (0 : Int32)) else κ) = κ from if_neg (fun q => (fun q => (no_lo (D := -1) (Y := 0) (by decide +kernel) (by decide +kernel) (by omega) (by omega) (by omega)) q.2.1) q.1)] at hS
      refine lv_ldc (own := RL) hx hb hown k15 dL_refuses_116 ?_
      refine lv_icmp_ne (tgt := 574) hx hb dL_refuses_118 (by decide) (fun c118 => absurd (rfl) c118) (fun c118 => ?_)
      refine lv_aload_n hx hb dL_refuses_121 rfl (lv_at hl 2 rfl) ?_
      refine lv_sipush (v := 1439) hx hb dL_refuses_122 (by decide +kernel) ?_
      refine lv_iconst (v := 0) hx hb dL_refuses_125 (by decide +kernel) ?_
      refine lv_iload_n hx hb dL_refuses_126 rfl (lv_at hl 0 rfl) ?_
      refine lv_iconst (v := 0) hx hb dL_refuses_127 (by decide +kernel) ?_
      refine lv_iconst (v := 0) hx hb dL_refuses_128 (by decide +kernel) ?_
      refine l_mt (vx_runSX (hh := [(0, 11, 12, 13), (0, 11, 17, 16)]) (As := [.ref (ad 0), .int 1439, .int 0, .int oo, .int 0, .int 0]) (rest := []) ⟨hx, hb, hml, hown, hts⟩ (h_logs l hfl D B ad κ H.size 1439 0 oo 0 0 n hR.1.2.1 hR.1.1 (rel_fa hR)) (vx_cwSW 6 hts gL_refuses_L_logs rfl rfl rfl hdS_L_logs ⟨Nat.le_of_ble_eq_true rfl, Nat.le_of_ble_eq_true rfl⟩) (sPSz hS.1.left) rfl rfl hl.1 rfl (lv_room (Nat.le_of_ble_eq_true rfl)) dL_refuses_129 ⟨Nat.le_of_ble_eq_true rfl, Nat.le_of_ble_eq_true rfl⟩) hS hAd ((oL_a (fun q => (hoo) q.2.2.1) : oL ((0 ≤ (1439 : Int32) ∧ (1439 : Int32) ≤ 1439) ∧ (0 ≤ (0 : Int32) ∧ (0 : Int32) ≤ 300) ∧ (0 ≤ oo ∧ oo ≤ 359) ∧ (0 ≤ (0 : Int32) ∧ (0 : Int32) ≤ 600) ∧ (0 ≤ (0 : Int32) ∧ (0 : Int32) ≤ 359)) (n < 60 ∧ (n = 0 ∨ κ 4 (n - 1) < (1439 : Int32))) (nI n) (-2000000002) (-2000000003) = (-2000000002))) (fun H locs hS => ?_)
      rw [show (if (((0 ≤ (1439 : Int32) ∧ (1439 : Int32) ≤ 1439) ∧ (0 ≤ (0 : Int32) ∧ (0 : Int32) ≤ 300) ∧ (0 ≤ oo ∧ oo ≤ 359) ∧ (0 ≤ (0 : Int32) ∧ (0 : Int32) ≤ 600) ∧ (0 ≤ (0 : Int32) ∧ (0 : Int32) ≤ 359)) ∧ (n < 60 ∧ (n = 0 ∨ κ 4 (n - 1) < (1439 : Int32)))) then (kLog κ n (1439 : Int32) (0 : Int32) oo (0 : Int32) (0 : Int32)) else κ) = κ from if_neg (fun q => (fun q => (hoo) q.2.2.1) q.1)] at hS
      refine lv_ldc (own := RL) hx hb hown k15 dL_refuses_132 ?_
      refine lv_icmp_ne (tgt := 574) hx hb dL_refuses_134 (by decide) (fun c134 => absurd (rfl) c134) (fun c134 => ?_)
      refine lv_aload_n hx hb dL_refuses_137 rfl (lv_at hl 2 rfl) ?_
      refine lv_sipush (v := 1439) hx hb dL_refuses_138 (by decide +kernel) ?_
      refine lv_iconst (v := 0) hx hb dL_refuses_141 (by decide +kernel) ?_
      refine lv_iconst (v := 0) hx hb dL_refuses_142 (by decide +kernel) ?_
      refine lv_sipush (v := 601) hx hb dL_refuses_143 (by decide +kernel) ?_
      refine lv_iload_n hx hb dL_refuses_146 rfl (lv_at hl 3 rfl) ?_
      refine lv_iadd hx hb dL_refuses_147 ?_
      refine lv_topi (fun zz ezz => ?_)
      obtain rfl : zz = nI (601 + k) := ezz.trans (add_l (by decide +kernel))
      refine lv_iconst (v := 0) hx hb dL_refuses_148 (by decide +kernel) ?_
      refine l_mt (vx_runSX (hh := [(0, 11, 12, 13), (0, 11, 17, 16)]) (As := [.ref (ad 0), .int 1439, .int 0, .int 0, .int (nI (601 + k)), .int 0]) (rest := []) ⟨hx, hb, hml, hown, hts⟩ (h_logs l hfl D B ad κ H.size 1439 0 0 (nI (601 + k)) 0 n hR.1.2.1 hR.1.1 (rel_fa hR)) (vx_cwSW 6 hts gL_refuses_L_logs rfl rfl rfl hdS_L_logs ⟨Nat.le_of_ble_eq_true rfl, Nat.le_of_ble_eq_true rfl⟩) (sPSz hS.1.left) rfl rfl hl.1 rfl (lv_room (Nat.le_of_ble_eq_true rfl)) dL_refuses_149 ⟨Nat.le_of_ble_eq_true rfl, Nat.le_of_ble_eq_true rfl⟩) hS hAd ((oL_a (fun q => (no_hi (m := 600) (by decide +kernel) (by omega) (by omega)) q.2.2.2.1) : oL ((0 ≤ (1439 : Int32) ∧ (1439 : Int32) ≤ 1439) ∧ (0 ≤ (0 : Int32) ∧ (0 : Int32) ≤ 300) ∧ (0 ≤ (0 : Int32) ∧ (0 : Int32) ≤ 359) ∧ (0 ≤ (nI (601 + k)) ∧ (nI (601 + k)) ≤ 600) ∧ (0 ≤ (0 : Int32) ∧ (0 : Int32) ≤ 359)) (n < 60 ∧ (n = 0 ∨ κ 4 (n - 1) < (1439 : Int32))) (nI n) (-2000000002) (-2000000003) = (-2000000002))) (fun H locs hS => ?_)
      rw [show (if (((0 ≤ (1439 : Int32) ∧ (1439 : Int32) ≤ 1439) ∧ (0 ≤ (0 : Int32) ∧ (0 : Int32) ≤ 300) ∧ (0 ≤ (0 : Int32) ∧ (0 : Int32) ≤ 359) ∧ (0 ≤ (nI (601 + k)) ∧ (nI (601 + k)) ≤ 600) ∧ (0 ≤ (0 : Int32) ∧ (0 : Int32) ≤ 359)) ∧ (n < 60 ∧ (n = 0 ∨ κ 4 (n - 1) < (1439 : Int32)))) then (kLog κ n (1439 : Int32) (0 : Int32) (0 : Int32) (nI (601 + k)) (0 : Int32)) else κ) = κ from if_neg (fun q => (fun q => (no_hi (m := 600) (by decide +kernel) (by omega) (by omega)) q.2.2.2.1) q.1)] at hS
      refine lv_ldc (own := RL) hx hb hown k15 dL_refuses_152 ?_
      refine lv_icmp_ne (tgt := 574) hx hb dL_refuses_154 (by decide) (fun c154 => absurd (rfl) c154) (fun c154 => ?_)
      refine lv_aload_n hx hb dL_refuses_157 rfl (lv_at hl 2 rfl) ?_
      refine lv_sipush (v := 1439) hx hb dL_refuses_158 (by decide +kernel) ?_
      refine lv_iconst (v := 0) hx hb dL_refuses_161 (by decide +kernel) ?_
      refine lv_iconst (v := 0) hx hb dL_refuses_162 (by decide +kernel) ?_
      refine lv_iconst (v := (-1)) hx hb dL_refuses_163 (by decide +kernel) ?_
      refine lv_iload_n hx hb dL_refuses_164 rfl (lv_at hl 3 rfl) ?_
      refine lv_isub hx hb dL_refuses_165 ?_
      refine lv_iconst (v := 0) hx hb dL_refuses_166 (by decide +kernel) ?_
      refine l_mt (vx_runSX (hh := [(0, 11, 12, 13), (0, 11, 17, 16)]) (As := [.ref (ad 0), .int 1439, .int 0, .int 0, .int ((-1) - (nI k)), .int 0]) (rest := []) ⟨hx, hb, hml, hown, hts⟩ (h_logs l hfl D B ad κ H.size 1439 0 0 ((-1) - (nI k)) 0 n hR.1.2.1 hR.1.1 (rel_fa hR)) (vx_cwSW 6 hts gL_refuses_L_logs rfl rfl rfl hdS_L_logs ⟨Nat.le_of_ble_eq_true rfl, Nat.le_of_ble_eq_true rfl⟩) (sPSz hS.1.left) rfl rfl hl.1 rfl (lv_room (Nat.le_of_ble_eq_true rfl)) dL_refuses_167 ⟨Nat.le_of_ble_eq_true rfl, Nat.le_of_ble_eq_true rfl⟩) hS hAd ((oL_a (fun q => (no_lo (D := -1) (Y := 0) (by decide +kernel) (by decide +kernel) (by omega) (by omega) (by omega)) q.2.2.2.1) : oL ((0 ≤ (1439 : Int32) ∧ (1439 : Int32) ≤ 1439) ∧ (0 ≤ (0 : Int32) ∧ (0 : Int32) ≤ 300) ∧ (0 ≤ (0 : Int32) ∧ (0 : Int32) ≤ 359) ∧ (0 ≤ ((-1) - (nI k)) ∧ ((-1) - (nI k)) ≤ 600) ∧ (0 ≤ (0 : Int32) ∧ (0 : Int32) ≤ 359)) (n < 60 ∧ (n = 0 ∨ κ 4 (n - 1) < (1439 : Int32))) (nI n) (-2000000002) (-2000000003) = (-2000000002))) (fun H locs hS => ?_)
      rw [show (if (((0 ≤ (1439 : Int32) ∧ (1439 : Int32) ≤ 1439) ∧ (0 ≤ (0 : Int32) ∧ (0 : Int32) ≤ 300) ∧ (0 ≤ (0 : Int32) ∧ (0 : Int32) ≤ 359) ∧ (0 ≤ ((-1) - (nI k)) ∧ ((-1) - (nI k)) ≤ 600) ∧ (0 ≤ (0 : Int32) ∧ (0 : Int32) ≤ 359)) ∧ (n < 60 ∧ (n = 0 ∨ κ 4 (n - 1) < (1439 : Int32)))) then (kLog κ n (1439 : Int32) (0 : Int32) (0 : Int32) ((-1) - (nI k)) (0 : Int32)) else κ) = κ from if_neg (fun q => (fun q => (no_lo (D := -1) (Y := 0) (by decide +kernel) (by decide +kernel) (by omega) (by omega) (by omega)) q.2.2.2.1) q.1)] at hS
      refine lv_ldc (own := RL) hx hb hown k15 dL_refuses_170 ?_
      refine lv_icmp_ne (tgt := 574) hx hb dL_refuses_172 (by decide) (fun c172 => absurd (rfl) c172) (fun c172 => ?_)
      refine lv_aload_n hx hb dL_refuses_175 rfl (lv_at hl 2 rfl) ?_
      refine lv_sipush (v := 1439) hx hb dL_refuses_176 (by decide +kernel) ?_
      refine lv_iconst (v := 0) hx hb dL_refuses_179 (by decide +kernel) ?_
      refine lv_iconst (v := 0) hx hb dL_refuses_180 (by decide +kernel) ?_
      refine lv_iconst (v := 0) hx hb dL_refuses_181 (by decide +kernel) ?_
      refine lv_iload_n hx hb dL_refuses_182 rfl (lv_at hl 0 rfl) ?_
      refine l_mt (vx_runSX (hh := [(0, 11, 12, 13), (0, 11, 17, 16)]) (As := [.ref (ad 0), .int 1439, .int 0, .int 0, .int 0, .int oo]) (rest := []) ⟨hx, hb, hml, hown, hts⟩ (h_logs l hfl D B ad κ H.size 1439 0 0 0 oo n hR.1.2.1 hR.1.1 (rel_fa hR)) (vx_cwSW 6 hts gL_refuses_L_logs rfl rfl rfl hdS_L_logs ⟨Nat.le_of_ble_eq_true rfl, Nat.le_of_ble_eq_true rfl⟩) (sPSz hS.1.left) rfl rfl hl.1 rfl (lv_room (Nat.le_of_ble_eq_true rfl)) dL_refuses_183 ⟨Nat.le_of_ble_eq_true rfl, Nat.le_of_ble_eq_true rfl⟩) hS hAd ((oL_a (fun q => (hoo) q.2.2.2.2) : oL ((0 ≤ (1439 : Int32) ∧ (1439 : Int32) ≤ 1439) ∧ (0 ≤ (0 : Int32) ∧ (0 : Int32) ≤ 300) ∧ (0 ≤ (0 : Int32) ∧ (0 : Int32) ≤ 359) ∧ (0 ≤ (0 : Int32) ∧ (0 : Int32) ≤ 600) ∧ (0 ≤ oo ∧ oo ≤ 359)) (n < 60 ∧ (n = 0 ∨ κ 4 (n - 1) < (1439 : Int32))) (nI n) (-2000000002) (-2000000003) = (-2000000002))) (fun H locs hS => ?_)
      rw [show (if (((0 ≤ (1439 : Int32) ∧ (1439 : Int32) ≤ 1439) ∧ (0 ≤ (0 : Int32) ∧ (0 : Int32) ≤ 300) ∧ (0 ≤ (0 : Int32) ∧ (0 : Int32) ≤ 359) ∧ (0 ≤ (0 : Int32) ∧ (0 : Int32) ≤ 600) ∧ (0 ≤ oo ∧ oo ≤ 359)) ∧ (n < 60 ∧ (n = 0 ∨ κ 4 (n - 1) < (1439 : Int32)))) then (kLog κ n (1439 : Int32) (0 : Int32) (0 : Int32) (0 : Int32) oo) else κ) = κ from if_neg (fun q => (fun q => (hoo) q.2.2.2.2) q.1)] at hS
      refine lv_ldc (own := RL) hx hb hown k15 dL_refuses_186 ?_
      refine lv_icmp_ne (tgt := 574) hx hb dL_refuses_188 (by decide) (fun c188 => absurd (rfl) c188) (fun c188 => ?_)
      refine lv_aload_n hx hb dL_refuses_191 rfl (lv_at hl 2 rfl) ?_
      refine lv_sipush (v := 499) hx hb dL_refuses_192 (by decide +kernel) ?_
      refine lv_iload_n hx hb dL_refuses_195 rfl (lv_at hl 3 rfl) ?_
      refine lv_isub hx hb dL_refuses_196 ?_
      refine lv_iconst (v := 0) hx hb dL_refuses_197 (by decide +kernel) ?_
      refine lv_iconst (v := 0) hx hb dL_refuses_198 (by decide +kernel) ?_
      refine l_mt (vx_runSX (hh := [(0, 7, 8, 13)]) (As := [.ref (ad 0), .int (499 - (nI k)), .int 0, .int 0]) (rest := []) ⟨hx, hb, hml, hown, hts⟩ (h_faults l hfl D B ad κ H.size (499 - (nI k)) 0 0 n hR.1.2.1 hR.1.1 (rel_kOk hR)) (vx_cwSW 4 hts gL_refuses_L_faults rfl rfl rfl hdS_L_faults ⟨Nat.le_of_ble_eq_true rfl, Nat.le_of_ble_eq_true rfl⟩) (sPSz hS.1.left) rfl rfl hl.1 rfl (lv_room (Nat.le_of_ble_eq_true rfl)) dL_refuses_199 ⟨Nat.le_of_ble_eq_true rfl, Nat.le_of_ble_eq_true rfl⟩) hS hAd ((oV_f (fun q => (no_lo (D := 499) (Y := 500) (by decide +kernel) (by decide +kernel) (by omega) (by omega) (by omega)) q.1) : oV (((500 ≤ (499 - (nI k)) ∧ (499 - (nI k)) ≤ 1500) ∧ ((-20) ≤ (0 : Int32) ∧ (0 : Int32) ≤ 20) ∧ ((-20) ≤ (0 : Int32) ∧ (0 : Int32) ≤ 20))) (κ 0 1) (-2000000002) = (-2000000002))) (fun H locs hS => ?_)
      rw [show (if ((500 ≤ (499 - (nI k)) ∧ (499 - (nI k)) ≤ 1500) ∧ ((-20) ≤ (0 : Int32) ∧ (0 : Int32) ≤ 20) ∧ ((-20) ≤ (0 : Int32) ∧ (0 : Int32) ≤ 20)) then (kAll (kF κ (499 - (nI k)) (0 : Int32) (0 : Int32)) n) else κ) = κ from if_neg (fun q => (fun q => (no_lo (D := 499) (Y := 500) (by decide +kernel) (by decide +kernel) (by omega) (by omega) (by omega)) q.1) q)] at hS
      refine lv_ldc (own := RL) hx hb hown k15 dL_refuses_202 ?_
      refine lv_icmp_ne (tgt := 574) hx hb dL_refuses_204 (by decide) (fun c204 => absurd (rfl) c204) (fun c204 => ?_)
      refine lv_aload_n hx hb dL_refuses_207 rfl (lv_at hl 2 rfl) ?_
      refine lv_sipush (v := 1501) hx hb dL_refuses_208 (by decide +kernel) ?_
      refine lv_iload_n hx hb dL_refuses_211 rfl (lv_at hl 3 rfl) ?_
      refine lv_iadd hx hb dL_refuses_212 ?_
      refine lv_topi (fun zz ezz => ?_)
      obtain rfl : zz = nI (1501 + k) := ezz.trans (add_l (by decide +kernel))
      refine lv_iconst (v := 0) hx hb dL_refuses_213 (by decide +kernel) ?_
      refine lv_iconst (v := 0) hx hb dL_refuses_214 (by decide +kernel) ?_
      refine l_mt (vx_runSX (hh := [(0, 7, 8, 13)]) (As := [.ref (ad 0), .int (nI (1501 + k)), .int 0, .int 0]) (rest := []) ⟨hx, hb, hml, hown, hts⟩ (h_faults l hfl D B ad κ H.size (nI (1501 + k)) 0 0 n hR.1.2.1 hR.1.1 (rel_kOk hR)) (vx_cwSW 4 hts gL_refuses_L_faults rfl rfl rfl hdS_L_faults ⟨Nat.le_of_ble_eq_true rfl, Nat.le_of_ble_eq_true rfl⟩) (sPSz hS.1.left) rfl rfl hl.1 rfl (lv_room (Nat.le_of_ble_eq_true rfl)) dL_refuses_215 ⟨Nat.le_of_ble_eq_true rfl, Nat.le_of_ble_eq_true rfl⟩) hS hAd ((oV_f (fun q => (no_hi (m := 1500) (by decide +kernel) (by omega) (by omega)) q.1) : oV (((500 ≤ (nI (1501 + k)) ∧ (nI (1501 + k)) ≤ 1500) ∧ ((-20) ≤ (0 : Int32) ∧ (0 : Int32) ≤ 20) ∧ ((-20) ≤ (0 : Int32) ∧ (0 : Int32) ≤ 20))) (κ 0 1) (-2000000002) = (-2000000002))) (fun H locs hS => ?_)
      rw [show (if ((500 ≤ (nI (1501 + k)) ∧ (nI (1501 + k)) ≤ 1500) ∧ ((-20) ≤ (0 : Int32) ∧ (0 : Int32) ≤ 20) ∧ ((-20) ≤ (0 : Int32) ∧ (0 : Int32) ≤ 20)) then (kAll (kF κ (nI (1501 + k)) (0 : Int32) (0 : Int32)) n) else κ) = κ from if_neg (fun q => (fun q => (no_hi (m := 1500) (by decide +kernel) (by omega) (by omega)) q.1) q)] at hS
      refine lv_ldc (own := RL) hx hb hown k15 dL_refuses_218 ?_
      refine lv_icmp_ne (tgt := 574) hx hb dL_refuses_220 (by decide) (fun c220 => absurd (rfl) c220) (fun c220 => ?_)
      refine lv_aload_n hx hb dL_refuses_223 rfl (lv_at hl 2 rfl) ?_
      refine lv_sipush (v := 1000) hx hb dL_refuses_224 (by decide +kernel) ?_
      refine lv_bipush (v := 21) hx hb dL_refuses_227 (by decide +kernel) ?_
      refine lv_iload_n hx hb dL_refuses_229 rfl (lv_at hl 3 rfl) ?_
      refine lv_iadd hx hb dL_refuses_230 ?_
      refine lv_topi (fun zz ezz => ?_)
      obtain rfl : zz = nI (21 + k) := ezz.trans (add_l (by decide +kernel))
      refine lv_iconst (v := 0) hx hb dL_refuses_231 (by decide +kernel) ?_
      refine l_mt (vx_runSX (hh := [(0, 7, 8, 13)]) (As := [.ref (ad 0), .int 1000, .int (nI (21 + k)), .int 0]) (rest := []) ⟨hx, hb, hml, hown, hts⟩ (h_faults l hfl D B ad κ H.size 1000 (nI (21 + k)) 0 n hR.1.2.1 hR.1.1 (rel_kOk hR)) (vx_cwSW 4 hts gL_refuses_L_faults rfl rfl rfl hdS_L_faults ⟨Nat.le_of_ble_eq_true rfl, Nat.le_of_ble_eq_true rfl⟩) (sPSz hS.1.left) rfl rfl hl.1 rfl (lv_room (Nat.le_of_ble_eq_true rfl)) dL_refuses_232 ⟨Nat.le_of_ble_eq_true rfl, Nat.le_of_ble_eq_true rfl⟩) hS hAd ((oV_f (fun q => (no_hi (m := 20) (by decide +kernel) (by omega) (by omega)) q.2.1) : oV (((500 ≤ (1000 : Int32) ∧ (1000 : Int32) ≤ 1500) ∧ ((-20) ≤ (nI (21 + k)) ∧ (nI (21 + k)) ≤ 20) ∧ ((-20) ≤ (0 : Int32) ∧ (0 : Int32) ≤ 20))) (κ 0 1) (-2000000002) = (-2000000002))) (fun H locs hS => ?_)
      rw [show (if ((500 ≤ (1000 : Int32) ∧ (1000 : Int32) ≤ 1500) ∧ ((-20) ≤ (nI (21 + k)) ∧ (nI (21 + k)) ≤ 20) ∧ ((-20) ≤ (0 : Int32) ∧ (0 : Int32) ≤ 20)) then (kAll (kF κ (1000 : Int32) (nI (21 + k)) (0 : Int32)) n) else κ) = κ from if_neg (fun q => (fun q => (no_hi (m := 20) (by decide +kernel) (by omega) (by omega)) q.2.1) q)] at hS
      refine lv_ldc (own := RL) hx hb hown k15 dL_refuses_235 ?_
      refine lv_icmp_ne (tgt := 574) hx hb dL_refuses_237 (by decide) (fun c237 => absurd (rfl) c237) (fun c237 => ?_)
      refine lv_aload_n hx hb dL_refuses_240 rfl (lv_at hl 2 rfl) ?_
      refine lv_sipush (v := 1000) hx hb dL_refuses_241 (by decide +kernel) ?_
      refine lv_iconst (v := 0) hx hb dL_refuses_244 (by decide +kernel) ?_
      refine lv_bipush (v := (-21)) hx hb dL_refuses_245 (by decide +kernel) ?_
      refine lv_iload_n hx hb dL_refuses_247 rfl (lv_at hl 3 rfl) ?_
      refine lv_isub hx hb dL_refuses_248 ?_
      refine l_mt (vx_runSX (hh := [(0, 7, 8, 13)]) (As := [.ref (ad 0), .int 1000, .int 0, .int ((-21) - (nI k))]) (rest := []) ⟨hx, hb, hml, hown, hts⟩ (h_faults l hfl D B ad κ H.size 1000 0 ((-21) - (nI k)) n hR.1.2.1 hR.1.1 (rel_kOk hR)) (vx_cwSW 4 hts gL_refuses_L_faults rfl rfl rfl hdS_L_faults ⟨Nat.le_of_ble_eq_true rfl, Nat.le_of_ble_eq_true rfl⟩) (sPSz hS.1.left) rfl rfl hl.1 rfl (lv_room (Nat.le_of_ble_eq_true rfl)) dL_refuses_249 ⟨Nat.le_of_ble_eq_true rfl, Nat.le_of_ble_eq_true rfl⟩) hS hAd ((oV_f (fun q => (no_lo (D := -21) (Y := -20) (by decide +kernel) (by decide +kernel) (by omega) (by omega) (by omega)) q.2.2) : oV (((500 ≤ (1000 : Int32) ∧ (1000 : Int32) ≤ 1500) ∧ ((-20) ≤ (0 : Int32) ∧ (0 : Int32) ≤ 20) ∧ ((-20) ≤ ((-21) - (nI k)) ∧ ((-21) - (nI k)) ≤ 20))) (κ 0 1) (-2000000002) = (-2000000002))) (fun H locs hS => ?_)
      rw [show (if ((500 ≤ (1000 : Int32) ∧ (1000 : Int32) ≤ 1500) ∧ ((-20) ≤ (0 : Int32) ∧ (0 : Int32) ≤ 20) ∧ ((-20) ≤ ((-21) - (nI k)) ∧ ((-21) - (nI k)) ≤ 20)) then (kAll (kF κ (1000 : Int32) (0 : Int32) ((-21) - (nI k))) n) else κ) = κ from if_neg (fun q => (fun q => (no_lo (D := -21) (Y := -20) (by decide +kernel) (by decide +kernel) (by omega) (by omega) (by omega)) q.2.2) q)] at hS
      refine lv_ldc (own := RL) hx hb hown k15 dL_refuses_252 ?_
      refine lv_icmp_ne (tgt := 574) hx hb dL_refuses_254 (by decide) (fun c254 => absurd (rfl) c254) (fun c254 => ?_)
      refine lv_aload_n hx hb dL_refuses_257 rfl (lv_at hl 2 rfl) ?_
      refine lv_bipush (v := 24) hx hb dL_refuses_258 (by decide +kernel) ?_
      refine lv_iload_n hx hb dL_refuses_260 rfl (lv_at hl 3 rfl) ?_
      refine lv_iadd hx hb dL_refuses_261 ?_
      refine lv_topi (fun zz ezz => ?_)
      obtain rfl : zz = nI (24 + k) := ezz.trans (add_l (by decide +kernel))
      refine lv_iload_n hx hb dL_refuses_262 rfl (lv_at hl 0 rfl) ?_
      refine lv_iconst (v := 0) hx hb dL_refuses_263 (by decide +kernel) ?_
      refine l_mt (vx_runSX (hh := [(0, 7, 8, 26), (0, 7, 13, 13)]) (As := [.ref (ad 0), .int (nI (24 + k)), .int oo, .int 0]) (rest := []) ⟨hx, hb, hml, hown, hts⟩ (h_tides l hfl D B ad κ H.size (nI (24 + k)) oo 0) (vx_cwSW 4 hts gL_refuses_L_tides rfl rfl rfl hdS_L_tides ⟨Nat.le_of_ble_eq_true rfl, Nat.le_of_ble_eq_true rfl⟩) (sPSz hS.1.left) rfl rfl hl.1 rfl (lv_room (Nat.le_of_ble_eq_true rfl)) dL_refuses_264 ⟨Nat.le_of_ble_eq_true rfl, Nat.le_of_ble_eq_true rfl⟩) hS hAd ((oL_a (no_hi (m := 23) (by decide +kernel) (by omega) (by omega)) : oL (0 ≤ (nI (24 + k)) ∧ (nI (24 + k)) ≤ 23) ((0 ≤ oo ∧ oo ≤ 359) ∧ (0 ≤ (0 : Int32) ∧ (0 : Int32) ≤ 100)) (κ 3 (iN (nI (24 + k)))) (-2000000001) (-2000000002) = (-2000000001))) (fun H locs hS => ?_)
      rw [show (if ((0 ≤ (nI (24 + k)) ∧ (nI (24 + k)) ≤ 23) ∧ (0 ≤ oo ∧ oo ≤ 359) ∧ (0 ≤ (0 : Int32) ∧ (0 : Int32) ≤ 100)) then (kset (kset κ 2 (iN (nI (24 + k))) oo) 3 (iN (nI (24 + k))) (0 : Int32)) else κ) = κ from if_neg (fun q => (no_hi (m := 23) (by decide +kernel) (by omega) (by omega)) q.1)] at hS
      refine lv_ldc (own := RL) hx hb hown k28 dL_refuses_267 ?_
      refine lv_icmp_ne (tgt := 574) hx hb dL_refuses_269 (by decide) (fun c269 => absurd (rfl) c269) (fun c269 => ?_)
      refine lv_aload_n hx hb dL_refuses_272 rfl (lv_at hl 2 rfl) ?_
      refine lv_iconst (v := (-1)) hx hb dL_refuses_273 (by decide +kernel) ?_
      refine lv_iload_n hx hb dL_refuses_274 rfl (lv_at hl 3 rfl) ?_
      refine lv_isub hx hb dL_refuses_275 ?_
      refine lv_iconst (v := 0) hx hb dL_refuses_276 (by decide +kernel) ?_
      refine lv_iconst (v := 0) hx hb dL_refuses_277 (by decide +kernel) ?_
      refine l_mt (vx_runSX (hh := [(0, 7, 8, 26), (0, 7, 13, 13)]) (As := [.ref (ad 0), .int ((-1) - (nI k)), .int 0, .int 0]) (rest := []) ⟨hx, hb, hml, hown, hts⟩ (h_tides l hfl D B ad κ H.size ((-1) - (nI k)) 0 0) (vx_cwSW 4 hts gL_refuses_L_tides rfl rfl rfl hdS_L_tides ⟨Nat.le_of_ble_eq_true rfl, Nat.le_of_ble_eq_true rfl⟩) (sPSz hS.1.left) rfl rfl hl.1 rfl (lv_room (Nat.le_of_ble_eq_true rfl)) dL_refuses_278 ⟨Nat.le_of_ble_eq_true rfl, Nat.le_of_ble_eq_true rfl⟩) hS hAd ((oL_a (no_lo (D := -1) (Y := 0) (by decide +kernel) (by decide +kernel) (by omega) (by omega) (by omega)) : oL (0 ≤ ((-1) - (nI k)) ∧ ((-1) - (nI k)) ≤ 23) ((0 ≤ (0 : Int32) ∧ (0 : Int32) ≤ 359) ∧ (0 ≤ (0 : Int32) ∧ (0 : Int32) ≤ 100)) (κ 3 (iN ((-1) - (nI k)))) (-2000000001) (-2000000002) = (-2000000001))) (fun H locs hS => ?_)
      rw [show (if ((0 ≤ ((-1) - (nI k)) ∧ ((-1) - (nI k)) ≤ 23) ∧ (0 ≤ (0 : Int32) ∧ (0 : Int32) ≤ 359) ∧ (0 ≤ (0 : Int32) ∧ (0 : Int32) ≤ 100)) then (kset (kset κ 2 (iN ((-1) - (nI k))) (0 : Int32)) 3 (iN ((-1) - (nI k))) (0 : Int32)) else κ) = κ from if_neg (fun q => (no_lo (D := -1) (Y := 0) (by decide +kernel) (by decide +kernel) (by omega) (by omega) (by omega)) q.1)] at hS
      refine lv_ldc (own := RL) hx hb hown k28 dL_refuses_281 ?_
      refine lv_icmp_ne (tgt := 574) hx hb dL_refuses_283 (by decide) (fun c283 => absurd (rfl) c283) (fun c283 => ?_)
      refine lv_aload_n hx hb dL_refuses_286 rfl (lv_at hl 2 rfl) ?_
      refine lv_iload_n hx hb dL_refuses_287 rfl (lv_at hl 3 rfl) ?_
      refine lv_bipush (v := 24) hx hb dL_refuses_288 (by decide +kernel) ?_
      refine lv_irem hx hb dL_refuses_290 (by decide +kernel) ?_
      refine lv_topi (fun zz ezz => ?_)
      obtain rfl : zz = nI (k % 24) := ezz.trans (rem_k (by decide +kernel) (by omega) (by omega))
      refine lv_iload_n hx hb dL_refuses_291 rfl (lv_at hl 0 rfl) ?_
      refine lv_iconst (v := 0) hx hb dL_refuses_292 (by decide +kernel) ?_
      refine l_mt (vx_runSX (hh := [(0, 7, 8, 26), (0, 7, 13, 13)]) (As := [.ref (ad 0), .int (nI (k % 24)), .int oo, .int 0]) (rest := []) ⟨hx, hb, hml, hown, hts⟩ (h_tides l hfl D B ad κ H.size (nI (k % 24)) oo 0) (vx_cwSW 4 hts gL_refuses_L_tides rfl rfl rfl hdS_L_tides ⟨Nat.le_of_ble_eq_true rfl, Nat.le_of_ble_eq_true rfl⟩) (sPSz hS.1.left) rfl rfl hl.1 rfl (lv_room (Nat.le_of_ble_eq_true rfl)) dL_refuses_293 ⟨Nat.le_of_ble_eq_true rfl, Nat.le_of_ble_eq_true rfl⟩) hS hAd ((oL_b (in_k (m := 23) (by decide +kernel) (by omega) (by omega)) (fun q => (hoo) q.1) : oL (0 ≤ (nI (k % 24)) ∧ (nI (k % 24)) ≤ 23) ((0 ≤ oo ∧ oo ≤ 359) ∧ (0 ≤ (0 : Int32) ∧ (0 : Int32) ≤ 100)) (κ 3 (iN (nI (k % 24)))) (-2000000001) (-2000000002) = (-2000000002))) (fun H locs hS => ?_)
      rw [show (if ((0 ≤ (nI (k % 24)) ∧ (nI (k % 24)) ≤ 23) ∧ (0 ≤ oo ∧ oo ≤ 359) ∧ (0 ≤ (0 : Int32) ∧ (0 : Int32) ≤ 100)) then (kset (kset κ 2 (iN (nI (k % 24))) oo) 3 (iN (nI (k % 24))) (0 : Int32)) else κ) = κ from if_neg (fun q => (fun q => (hoo) q.1) q.2)] at hS
      refine lv_ldc (own := RL) hx hb hown k15 dL_refuses_296 ?_
      refine lv_icmp_ne (tgt := 574) hx hb dL_refuses_298 (by decide) (fun c298 => absurd (rfl) c298) (fun c298 => ?_)
      refine lv_aload_n hx hb dL_refuses_301 rfl (lv_at hl 2 rfl) ?_
      refine lv_iload_n hx hb dL_refuses_302 rfl (lv_at hl 3 rfl) ?_
      refine lv_bipush (v := 24) hx hb dL_refuses_303 (by decide +kernel) ?_
      refine lv_irem hx hb dL_refuses_305 (by decide +kernel) ?_
      refine lv_topi (fun zz ezz => ?_)
      obtain rfl : zz = nI (k % 24) := ezz.trans (rem_k (by decide +kernel) (by omega) (by omega))
      refine lv_iconst (v := 0) hx hb dL_refuses_306 (by decide +kernel) ?_
      refine lv_bipush (v := 101) hx hb dL_refuses_307 (by decide +kernel) ?_
      refine lv_iload_n hx hb dL_refuses_309 rfl (lv_at hl 3 rfl) ?_
      refine lv_iadd hx hb dL_refuses_310 ?_
      refine lv_topi (fun zz ezz => ?_)
      obtain rfl : zz = nI (101 + k) := ezz.trans (add_l (by decide +kernel))
      refine l_mt (vx_runSX (hh := [(0, 7, 8, 26), (0, 7, 13, 13)]) (As := [.ref (ad 0), .int (nI (k % 24)), .int 0, .int (nI (101 + k))]) (rest := []) ⟨hx, hb, hml, hown, hts⟩ (h_tides l hfl D B ad κ H.size (nI (k % 24)) 0 (nI (101 + k))) (vx_cwSW 4 hts gL_refuses_L_tides rfl rfl rfl hdS_L_tides ⟨Nat.le_of_ble_eq_true rfl, Nat.le_of_ble_eq_true rfl⟩) (sPSz hS.1.left) rfl rfl hl.1 rfl (lv_room (Nat.le_of_ble_eq_true rfl)) dL_refuses_311 ⟨Nat.le_of_ble_eq_true rfl, Nat.le_of_ble_eq_true rfl⟩) hS hAd ((oL_b (in_k (m := 23) (by decide +kernel) (by omega) (by omega)) (fun q => (no_hi (m := 100) (by decide +kernel) (by omega) (by omega)) q.2) : oL (0 ≤ (nI (k % 24)) ∧ (nI (k % 24)) ≤ 23) ((0 ≤ (0 : Int32) ∧ (0 : Int32) ≤ 359) ∧ (0 ≤ (nI (101 + k)) ∧ (nI (101 + k)) ≤ 100)) (κ 3 (iN (nI (k % 24)))) (-2000000001) (-2000000002) = (-2000000002))) (fun H locs hS => ?_)
      rw [show (if ((0 ≤ (nI (k % 24)) ∧ (nI (k % 24)) ≤ 23) ∧ (0 ≤ (0 : Int32) ∧ (0 : Int32) ≤ 359) ∧ (0 ≤ (nI (101 + k)) ∧ (nI (101 + k)) ≤ 100)) then (kset (kset κ 2 (iN (nI (k % 24))) (0 : Int32)) 3 (iN (nI (k % 24))) (nI (101 + k))) else κ) = κ from if_neg (fun q => (fun q => (no_hi (m := 100) (by decide +kernel) (by omega) (by omega)) q.2) q.2)] at hS
      refine lv_ldc (own := RL) hx hb hown k15 dL_refuses_314 ?_
      refine lv_icmp_ne (tgt := 574) hx hb dL_refuses_316 (by decide) (fun c316 => absurd (rfl) c316) (fun c316 => ?_)
      refine lv_aload_n hx hb dL_refuses_319 rfl (lv_at hl 2 rfl) ?_
      refine lv_iload_n hx hb dL_refuses_320 rfl (lv_at hl 3 rfl) ?_
      refine lv_bipush (v := 24) hx hb dL_refuses_321 (by decide +kernel) ?_
      refine lv_irem hx hb dL_refuses_323 (by decide +kernel) ?_
      refine lv_topi (fun zz ezz => ?_)
      obtain rfl : zz = nI (k % 24) := ezz.trans (rem_k (by decide +kernel) (by omega) (by omega))
      refine lv_iconst (v := 0) hx hb dL_refuses_324 (by decide +kernel) ?_
      refine lv_iconst (v := (-1)) hx hb dL_refuses_325 (by decide +kernel) ?_
      refine lv_iload_n hx hb dL_refuses_326 rfl (lv_at hl 3 rfl) ?_
      refine lv_isub hx hb dL_refuses_327 ?_
      refine l_mt (vx_runSX (hh := [(0, 7, 8, 26), (0, 7, 13, 13)]) (As := [.ref (ad 0), .int (nI (k % 24)), .int 0, .int ((-1) - (nI k))]) (rest := []) ⟨hx, hb, hml, hown, hts⟩ (h_tides l hfl D B ad κ H.size (nI (k % 24)) 0 ((-1) - (nI k))) (vx_cwSW 4 hts gL_refuses_L_tides rfl rfl rfl hdS_L_tides ⟨Nat.le_of_ble_eq_true rfl, Nat.le_of_ble_eq_true rfl⟩) (sPSz hS.1.left) rfl rfl hl.1 rfl (lv_room (Nat.le_of_ble_eq_true rfl)) dL_refuses_328 ⟨Nat.le_of_ble_eq_true rfl, Nat.le_of_ble_eq_true rfl⟩) hS hAd ((oL_b (in_k (m := 23) (by decide +kernel) (by omega) (by omega)) (fun q => (no_lo (D := -1) (Y := 0) (by decide +kernel) (by decide +kernel) (by omega) (by omega) (by omega)) q.2) : oL (0 ≤ (nI (k % 24)) ∧ (nI (k % 24)) ≤ 23) ((0 ≤ (0 : Int32) ∧ (0 : Int32) ≤ 359) ∧ (0 ≤ ((-1) - (nI k)) ∧ ((-1) - (nI k)) ≤ 100)) (κ 3 (iN (nI (k % 24)))) (-2000000001) (-2000000002) = (-2000000002))) (fun H locs hS => ?_)
      rw [show (if ((0 ≤ (nI (k % 24)) ∧ (nI (k % 24)) ≤ 23) ∧ (0 ≤ (0 : Int32) ∧ (0 : Int32) ≤ 359) ∧ (0 ≤ ((-1) - (nI k)) ∧ ((-1) - (nI k)) ≤ 100)) then (kset (kset κ 2 (iN (nI (k % 24))) (0 : Int32)) 3 (iN (nI (k % 24))) ((-1) - (nI k))) else κ) = κ from if_neg (fun q => (fun q => (no_lo (D := -1) (Y := 0) (by decide +kernel) (by decide +kernel) (by omega) (by omega) (by omega)) q.2) q.2)] at hS
      refine lv_ldc (own := RL) hx hb hown k15 dL_refuses_331 ?_
      refine lv_icmp_ne (tgt := 574) hx hb dL_refuses_333 (by decide) (fun c333 => absurd (rfl) c333) (fun c333 => ?_)
      refine lv_aload_n hx hb dL_refuses_336 rfl (lv_at hl 2 rfl) ?_
      refine lv_iload_n hx hb dL_refuses_337 rfl (lv_at hl 1 rfl) ?_
      refine l_rd (vx_runSX (hh := [(0, 5, 6, 26)]) (As := [.ref (ad 0), .int nn]) (rest := []) ⟨hx, hb, hml, hown, hts⟩ (h_speed l hfl D B ad κ H.size nn n hR.1.2.1 hR.1.1) (vx_cwSW 2 hts gL_refuses_L_speed rfl rfl rfl hdS_L_speed ⟨Nat.le_of_ble_eq_true rfl, Nat.le_of_ble_eq_true rfl⟩) (sPSz hS.1.left) rfl rfl hl.1 rfl (lv_room (Nat.le_of_ble_eq_true rfl)) dL_refuses_338 ⟨Nat.le_of_ble_eq_true rfl, Nat.le_of_ble_eq_true rfl⟩) hS ((oV_f (hnn) : oV ((0 ≤ nn ∧ nn ≤ (κ 0 0 - 1))) (κ 9 (iN nn)) (-2000000001) = (-2000000001))) (fun H locs hS => ?_)
      refine lv_ldc (own := RL) hx hb hown k28 dL_refuses_341 ?_
      refine lv_icmp_ne (tgt := 574) hx hb dL_refuses_343 (by decide) (fun c343 => absurd (rfl) c343) (fun c343 => ?_)
      refine lv_aload_n hx hb dL_refuses_346 rfl (lv_at hl 2 rfl) ?_
      refine lv_iload_n hx hb dL_refuses_347 rfl (lv_at hl 1 rfl) ?_
      refine l_rd (vx_runSX (hh := [(0, 5, 6, 26)]) (As := [.ref (ad 0), .int nn]) (rest := []) ⟨hx, hb, hml, hown, hts⟩ (h_strength l hfl D B ad κ H.size nn n hR.1.2.1 hR.1.1) (vx_cwSW 2 hts gL_refuses_L_strength rfl rfl rfl hdS_L_strength ⟨Nat.le_of_ble_eq_true rfl, Nat.le_of_ble_eq_true rfl⟩) (sPSz hS.1.left) rfl rfl hl.1 rfl (lv_room (Nat.le_of_ble_eq_true rfl)) dL_refuses_348 ⟨Nat.le_of_ble_eq_true rfl, Nat.le_of_ble_eq_true rfl⟩) hS ((oV_f (hnn) : oV ((0 ≤ nn ∧ nn ≤ (κ 0 0 - 1))) (κ 11 (iN nn)) (-2000000001) = (-2000000001))) (fun H locs hS => ?_)
      refine lv_ldc (own := RL) hx hb hown k28 dL_refuses_351 ?_
      refine lv_icmp_ne (tgt := 574) hx hb dL_refuses_353 (by decide) (fun c353 => absurd (rfl) c353) (fun c353 => ?_)
      refine lv_aload_n hx hb dL_refuses_356 rfl (lv_at hl 2 rfl) ?_
      refine lv_iload_n hx hb dL_refuses_357 rfl (lv_at hl 1 rfl) ?_
      refine l_rd (vx_runSX (hh := [(0, 5, 6, 26)]) (As := [.ref (ad 0), .int nn]) (rest := []) ⟨hx, hb, hml, hown, hts⟩ (h_angle l hfl D B ad κ H.size nn n hR.1.2.1 hR.1.1) (vx_cwSW 2 hts gL_refuses_L_angle rfl rfl rfl hdS_L_angle ⟨Nat.le_of_ble_eq_true rfl, Nat.le_of_ble_eq_true rfl⟩) (sPSz hS.1.left) rfl rfl hl.1 rfl (lv_room (Nat.le_of_ble_eq_true rfl)) dL_refuses_358 ⟨Nat.le_of_ble_eq_true rfl, Nat.le_of_ble_eq_true rfl⟩) hS ((oV_f (hnn) : oV ((0 ≤ nn ∧ nn ≤ (κ 0 0 - 1))) (κ 12 (iN nn)) (-2000000001) = (-2000000001))) (fun H locs hS => ?_)
      refine lv_ldc (own := RL) hx hb hown k28 dL_refuses_361 ?_
      refine lv_icmp_ne (tgt := 574) hx hb dL_refuses_363 (by decide) (fun c363 => absurd (rfl) c363) (fun c363 => ?_)
      refine lv_aload_n hx hb dL_refuses_366 rfl (lv_at hl 2 rfl) ?_
      refine lv_iload_n hx hb dL_refuses_367 rfl (lv_at hl 1 rfl) ?_
      refine l_rd (vx_runSX (hh := [(0, 5, 6, 26)]) (As := [.ref (ad 0), .int nn]) (rest := []) ⟨hx, hb, hml, hown, hts⟩ (h_from l hfl D B ad κ H.size nn n hR.1.2.1 hR.1.1) (vx_cwSW 2 hts gL_refuses_L_from rfl rfl rfl hdS_L_from ⟨Nat.le_of_ble_eq_true rfl, Nat.le_of_ble_eq_true rfl⟩) (sPSz hS.1.left) rfl rfl hl.1 rfl (lv_room (Nat.le_of_ble_eq_true rfl)) dL_refuses_368 ⟨Nat.le_of_ble_eq_true rfl, Nat.le_of_ble_eq_true rfl⟩) hS ((oV_f (hnn) : oV ((0 ≤ nn ∧ nn ≤ (κ 0 0 - 1))) (t360 ((κ 10 (iN nn)) + (κ 12 (iN nn)))) (-2000000001) = (-2000000001))) (fun H locs hS => ?_)
      refine lv_ldc (own := RL) hx hb hown k28 dL_refuses_371 ?_
      refine lv_icmp_ne (tgt := 574) hx hb dL_refuses_373 (by decide) (fun c373 => absurd (rfl) c373) (fun c373 => ?_)
      refine lv_aload_n hx hb dL_refuses_376 rfl (lv_at hl 2 rfl) ?_
      refine lv_iload_n hx hb dL_refuses_377 rfl (lv_at hl 1 rfl) ?_
      refine l_rd (vx_runSX (hh := [(0, 5, 6, 26)]) (As := [.ref (ad 0), .int nn]) (rest := []) ⟨hx, hb, hml, hown, hts⟩ (h_side l hfl D B ad κ H.size nn n hR.1.2.1 hR.1.1) (vx_cwSW 2 hts gL_refuses_L_side rfl rfl rfl hdS_L_side ⟨Nat.le_of_ble_eq_true rfl, Nat.le_of_ble_eq_true rfl⟩) (sPSz hS.1.left) rfl rfl hl.1 rfl (lv_room (Nat.le_of_ble_eq_true rfl)) dL_refuses_378 ⟨Nat.le_of_ble_eq_true rfl, Nat.le_of_ble_eq_true rfl⟩) hS ((oV_f (hnn) : oV ((0 ≤ nn ∧ nn ≤ (κ 0 0 - 1))) (sdI (κ 12 (iN nn))) (-2000000001) = (-2000000001))) (fun H locs hS => ?_)
      refine lv_ldc (own := RL) hx hb hown k28 dL_refuses_381 ?_
      refine lv_icmp_ne (tgt := 574) hx hb dL_refuses_383 (by decide) (fun c383 => absurd (rfl) c383) (fun c383 => ?_)
      refine lv_aload_n hx hb dL_refuses_386 rfl (lv_at hl 2 rfl) ?_
      refine lv_iload_n hx hb dL_refuses_387 rfl (lv_at hl 1 rfl) ?_
      refine l_rd (vx_runSX (hh := [(0, 5, 6, 26)]) (As := [.ref (ad 0), .int nn]) (rest := []) ⟨hx, hb, hml, hown, hts⟩ (h_turn l hfl D B ad κ H.size nn n hR.1.2.1 hR.1.1) (vx_cwSW 2 hts gL_refuses_L_turn rfl rfl rfl hdS_L_turn ⟨Nat.le_of_ble_eq_true rfl, Nat.le_of_ble_eq_true rfl⟩) (sPSz hS.1.left) rfl rfl hl.1 rfl (lv_room (Nat.le_of_ble_eq_true rfl)) dL_refuses_388 ⟨Nat.le_of_ble_eq_true rfl, Nat.le_of_ble_eq_true rfl⟩) hS ((oV_f (hnn) : oV ((0 ≤ nn ∧ nn ≤ (κ 0 0 - 1))) (kindF (κ 12) (iN nn)) (-2000000001) = (-2000000001))) (fun H locs hS => ?_)
      refine lv_ldc (own := RL) hx hb hown k28 dL_refuses_391 ?_
      refine lv_icmp_ne (tgt := 574) hx hb dL_refuses_393 (by decide) (fun c393 => absurd (rfl) c393) (fun c393 => ?_)
      refine lv_aload_n hx hb dL_refuses_396 rfl (lv_at hl 2 rfl) ?_
      refine lv_iload_n hx hb dL_refuses_397 rfl (lv_at hl 1 rfl) ?_
      refine l_rd (vx_runSX (hh := [(0, 5, 6, 26)]) (As := [.ref (ad 0), .int nn]) (rest := []) ⟨hx, hb, hml, hown, hts⟩ (h_cost l hfl D B ad κ H.size nn n hR.1.2.1 hR.1.1) (vx_cwSW 2 hts gL_refuses_L_cost rfl rfl rfl hdS_L_cost ⟨Nat.le_of_ble_eq_true rfl, Nat.le_of_ble_eq_true rfl⟩) (sPSz hS.1.left) rfl rfl hl.1 rfl (lv_room (Nat.le_of_ble_eq_true rfl)) dL_refuses_398 ⟨Nat.le_of_ble_eq_true rfl, Nat.le_of_ble_eq_true rfl⟩) hS ((oV_f (hnn) : oV ((0 ≤ nn ∧ nn ≤ (κ 0 0 - 1))) (lossF (κ 12) (κ 4) (κ 9) n (iN nn)) (-2000000001) = (-2000000001))) (fun H locs hS => ?_)
      refine lv_ldc (own := RL) hx hb hown k28 dL_refuses_401 ?_
      refine lv_icmp_ne (tgt := 574) hx hb dL_refuses_403 (by decide) (fun c403 => absurd (rfl) c403) (fun c403 => ?_)
      refine lv_aload_n hx hb dL_refuses_406 rfl (lv_at hl 2 rfl) ?_
      refine lv_iload_n hx hb dL_refuses_407 rfl (lv_at hl 1 rfl) ?_
      refine l_rd (vx_runSX (hh := [(0, 5, 6, 26)]) (As := [.ref (ad 0), .int nn]) (rest := []) ⟨hx, hb, hml, hown, hts⟩ (h_east l hfl D B ad κ H.size nn n hR.1.2.1 hR.1.1 (rel_mi hR)) (vx_cwSW 2 hts gL_refuses_L_east rfl rfl rfl hdS_L_east ⟨Nat.le_of_ble_eq_true rfl, Nat.le_of_ble_eq_true rfl⟩) (sPSz hS.1.left) rfl rfl hl.1 rfl (lv_room (Nat.le_of_ble_eq_true rfl)) dL_refuses_408 ⟨Nat.le_of_ble_eq_true rfl, Nat.le_of_ble_eq_true rfl⟩) hS ((oV_f (hnn) : oV ((0 ≤ nn ∧ nn ≤ (κ 0 0 - 1))) ((fd6 (wayS (κ 4) (κ 9) (κ 10) (κ 2) (κ 3) 0 (iN nn))).toInt32) (-2000000001) = (-2000000001))) (fun H locs hS => ?_)
      refine lv_ldc (own := RL) hx hb hown k28 dL_refuses_411 ?_
      refine lv_icmp_ne (tgt := 574) hx hb dL_refuses_413 (by decide) (fun c413 => absurd (rfl) c413) (fun c413 => ?_)
      refine lv_aload_n hx hb dL_refuses_416 rfl (lv_at hl 2 rfl) ?_
      refine lv_iload_n hx hb dL_refuses_417 rfl (lv_at hl 1 rfl) ?_
      refine l_rd (vx_runSX (hh := [(0, 5, 6, 26)]) (As := [.ref (ad 0), .int nn]) (rest := []) ⟨hx, hb, hml, hown, hts⟩ (h_north l hfl D B ad κ H.size nn n hR.1.2.1 hR.1.1 (rel_mi hR)) (vx_cwSW 2 hts gL_refuses_L_north rfl rfl rfl hdS_L_north ⟨Nat.le_of_ble_eq_true rfl, Nat.le_of_ble_eq_true rfl⟩) (sPSz hS.1.left) rfl rfl hl.1 rfl (lv_room (Nat.le_of_ble_eq_true rfl)) dL_refuses_418 ⟨Nat.le_of_ble_eq_true rfl, Nat.le_of_ble_eq_true rfl⟩) hS ((oV_f (hnn) : oV ((0 ≤ nn ∧ nn ≤ (κ 0 0 - 1))) ((fd6 (wayS (κ 4) (κ 9) (κ 10) (κ 2) (κ 3) 90 (iN nn))).toInt32) (-2000000001) = (-2000000001))) (fun H locs hS => ?_)
      refine lv_ldc (own := RL) hx hb hown k28 dL_refuses_421 ?_
      refine lv_icmp_ne (tgt := 574) hx hb dL_refuses_423 (by decide) (fun c423 => absurd (rfl) c423) (fun c423 => ?_)
      refine lv_aload_n hx hb dL_refuses_426 rfl (lv_at hl 2 rfl) ?_
      refine lv_bipush (v := 19) hx hb dL_refuses_427 (by decide +kernel) ?_
      refine lv_iload_n hx hb dL_refuses_429 rfl (lv_at hl 3 rfl) ?_
      refine lv_iadd hx hb dL_refuses_430 ?_
      refine lv_topi (fun zz ezz => ?_)
      obtain rfl : zz = nI (19 + k) := ezz.trans (add_l (by decide +kernel))
      refine lv_iconst (v := 0) hx hb dL_refuses_431 (by decide +kernel) ?_
      refine l_rd (vx_runSX (hh := [(0, 6, 7, 26)]) (As := [.ref (ad 0), .int (nI (19 + k)), .int 0]) (rest := []) ⟨hx, hb, hml, hown, hts⟩ (h_best l hfl D B ad κ H.size (nI (19 + k)) 0) (vx_cwSW 3 hts gL_refuses_L_best rfl rfl rfl hdS_L_best ⟨Nat.le_of_ble_eq_true rfl, Nat.le_of_ble_eq_true rfl⟩) (sPSz hS.1.left) rfl rfl hl.1 rfl (lv_room (Nat.le_of_ble_eq_true rfl)) dL_refuses_432 ⟨Nat.le_of_ble_eq_true rfl, Nat.le_of_ble_eq_true rfl⟩) hS ((oV_f (fun q => (no_hi (m := 18) (by decide +kernel) (by omega) (by omega)) q.1) : oV (((0 ≤ (nI (19 + k)) ∧ (nI (19 + k)) ≤ 18) ∧ (0 ≤ (0 : Int32) ∧ (0 : Int32) ≤ 9))) (κ 1 (iN (nI (19 + k)) * 10 + iN (0 : Int32))) (-2000000001) = (-2000000001))) (fun H locs hS => ?_)
      refine lv_ldc (own := RL) hx hb hown k28 dL_refuses_435 ?_
      refine lv_icmp_ne (tgt := 574) hx hb dL_refuses_437 (by decide) (fun c437 => absurd (rfl) c437) (fun c437 => ?_)
      refine lv_aload_n hx hb dL_refuses_440 rfl (lv_at hl 2 rfl) ?_
      refine lv_iconst (v := 0) hx hb dL_refuses_441 (by decide +kernel) ?_
      refine lv_bipush (v := 10) hx hb dL_refuses_442 (by decide +kernel) ?_
      refine lv_iload_n hx hb dL_refuses_444 rfl (lv_at hl 3 rfl) ?_
      refine lv_iadd hx hb dL_refuses_445 ?_
      refine lv_topi (fun zz ezz => ?_)
      obtain rfl : zz = nI (10 + k) := ezz.trans (add_l (by decide +kernel))
      refine l_rd (vx_runSX (hh := [(0, 6, 7, 26)]) (As := [.ref (ad 0), .int 0, .int (nI (10 + k))]) (rest := []) ⟨hx, hb, hml, hown, hts⟩ (h_best l hfl D B ad κ H.size 0 (nI (10 + k))) (vx_cwSW 3 hts gL_refuses_L_best rfl rfl rfl hdS_L_best ⟨Nat.le_of_ble_eq_true rfl, Nat.le_of_ble_eq_true rfl⟩) (sPSz hS.1.left) rfl rfl hl.1 rfl (lv_room (Nat.le_of_ble_eq_true rfl)) dL_refuses_446 ⟨Nat.le_of_ble_eq_true rfl, Nat.le_of_ble_eq_true rfl⟩) hS ((oV_f (fun q => (no_hi (m := 9) (by decide +kernel) (by omega) (by omega)) q.2) : oV (((0 ≤ (0 : Int32) ∧ (0 : Int32) ≤ 18) ∧ (0 ≤ (nI (10 + k)) ∧ (nI (10 + k)) ≤ 9))) (κ 1 (iN (0 : Int32) * 10 + iN (nI (10 + k)))) (-2000000001) = (-2000000001))) (fun H locs hS => ?_)
      refine lv_ldc (own := RL) hx hb hown k28 dL_refuses_449 ?_
      refine lv_icmp_ne (tgt := 574) hx hb dL_refuses_451 (by decide) (fun c451 => absurd (rfl) c451) (fun c451 => ?_)
      refine lv_aload_n hx hb dL_refuses_454 rfl (lv_at hl 2 rfl) ?_
      refine lv_iconst (v := (-1)) hx hb dL_refuses_455 (by decide +kernel) ?_
      refine lv_iload_n hx hb dL_refuses_456 rfl (lv_at hl 3 rfl) ?_
      refine lv_isub hx hb dL_refuses_457 ?_
      refine lv_iconst (v := 0) hx hb dL_refuses_458 (by decide +kernel) ?_
      refine l_rd (vx_runSX (hh := [(0, 6, 7, 26)]) (As := [.ref (ad 0), .int ((-1) - (nI k)), .int 0]) (rest := []) ⟨hx, hb, hml, hown, hts⟩ (h_byLog l hfl D B ad κ H.size ((-1) - (nI k)) 0 n hR.1.2.1 hR.1.1) (vx_cwSW 3 hts gL_refuses_L_byLog rfl rfl rfl hdS_L_byLog ⟨Nat.le_of_ble_eq_true rfl, Nat.le_of_ble_eq_true rfl⟩) (sPSz hS.1.left) rfl rfl hl.1 rfl (lv_room (Nat.le_of_ble_eq_true rfl)) dL_refuses_459 ⟨Nat.le_of_ble_eq_true rfl, Nat.le_of_ble_eq_true rfl⟩) hS ((oV_f (fun q => (no_lo (D := -1) (Y := 0) (by decide +kernel) (by decide +kernel) (by omega) (by omega) (by omega)) q.1) : oV (((0 ≤ ((-1) - (nI k)) ∧ ((-1) - (nI k)) ≤ 18) ∧ (0 ≤ (0 : Int32) ∧ (0 : Int32) ≤ 9))) (fmx (κ 9) (κ 11) (κ 12) ((-1) - (nI k)) (0 : Int32) n) (-2000000001) = (-2000000001))) (fun H locs hS => ?_)
      refine lv_ldc (own := RL) hx hb hown k28 dL_refuses_462 ?_
      refine lv_icmp_ne (tgt := 574) hx hb dL_refuses_464 (by decide) (fun c464 => absurd (rfl) c464) (fun c464 => ?_)
      refine lv_aload_n hx hb dL_refuses_467 rfl (lv_at hl 2 rfl) ?_
      refine lv_iconst (v := 0) hx hb dL_refuses_468 (by decide +kernel) ?_
      refine lv_iconst (v := (-1)) hx hb dL_refuses_469 (by decide +kernel) ?_
      refine l_rd (vx_runSX (hh := [(0, 6, 7, 26)]) (As := [.ref (ad 0), .int 0, .int (-1)]) (rest := []) ⟨hx, hb, hml, hown, hts⟩ (h_byLog l hfl D B ad κ H.size 0 (-1) n hR.1.2.1 hR.1.1) (vx_cwSW 3 hts gL_refuses_L_byLog rfl rfl rfl hdS_L_byLog ⟨Nat.le_of_ble_eq_true rfl, Nat.le_of_ble_eq_true rfl⟩) (sPSz hS.1.left) rfl rfl hl.1 rfl (lv_room (Nat.le_of_ble_eq_true rfl)) dL_refuses_470 ⟨Nat.le_of_ble_eq_true rfl, Nat.le_of_ble_eq_true rfl⟩) hS ((oV_f (fun q => ((fun q => absurd q.1 (by decide +kernel))) q.2) : oV (((0 ≤ (0 : Int32) ∧ (0 : Int32) ≤ 18) ∧ (0 ≤ (-1 : Int32) ∧ (-1 : Int32) ≤ 9))) (fmx (κ 9) (κ 11) (κ 12) (0 : Int32) (-1 : Int32) n) (-2000000001) = (-2000000001))) (fun H locs hS => ?_)
      refine lv_ldc (own := RL) hx hb hown k28 dL_refuses_473 ?_
      refine lv_icmp_ne (tgt := 574) hx hb dL_refuses_475 (by decide) (fun c475 => absurd (rfl) c475) (fun c475 => ?_)
      refine lv_aload_n hx hb dL_refuses_478 rfl (lv_at hl 2 rfl) ?_
      refine lv_bipush (v := 10) hx hb dL_refuses_479 (by decide +kernel) ?_
      refine lv_iload_n hx hb dL_refuses_481 rfl (lv_at hl 3 rfl) ?_
      refine lv_iadd hx hb dL_refuses_482 ?_
      refine lv_topi (fun zz ezz => ?_)
      obtain rfl : zz = nI (10 + k) := ezz.trans (add_l (by decide +kernel))
      refine l_rd (vx_runSX (hh := [(0, 5, 6, 26)]) (As := [.ref (ad 0), .int (nI (10 + k))]) (rest := []) ⟨hx, hb, hml, hown, hts⟩ (h_up l hfl D B ad κ H.size (nI (10 + k))) (vx_cwSW 2 hts gL_refuses_L_up rfl rfl rfl hdS_L_up ⟨Nat.le_of_ble_eq_true rfl, Nat.le_of_ble_eq_true rfl⟩) (sPSz hS.1.left) rfl rfl hl.1 rfl (lv_room (Nat.le_of_ble_eq_true rfl)) dL_refuses_483 ⟨Nat.le_of_ble_eq_true rfl, Nat.le_of_ble_eq_true rfl⟩) hS ((oV_f (no_hi (m := 9) (by decide +kernel) (by omega) (by omega)) : oV ((0 ≤ (nI (10 + k)) ∧ (nI (10 + k)) ≤ 9)) ((upB (fun r => 1 * κ 1 (r * 10 + iN (nI (10 + k))) * cs (midI (nI r))) 0 9).1) (-2000000001) = (-2000000001))) (fun H locs hS => ?_)
      refine lv_ldc (own := RL) hx hb hown k28 dL_refuses_486 ?_
      refine lv_icmp_ne (tgt := 574) hx hb dL_refuses_488 (by decide) (fun c488 => absurd (rfl) c488) (fun c488 => ?_)
      refine lv_aload_n hx hb dL_refuses_491 rfl (lv_at hl 2 rfl) ?_
      refine lv_iconst (v := (-1)) hx hb dL_refuses_492 (by decide +kernel) ?_
      refine lv_iload_n hx hb dL_refuses_493 rfl (lv_at hl 3 rfl) ?_
      refine lv_isub hx hb dL_refuses_494 ?_
      refine l_rd (vx_runSX (hh := [(0, 5, 6, 26)]) (As := [.ref (ad 0), .int ((-1) - (nI k))]) (rest := []) ⟨hx, hb, hml, hown, hts⟩ (h_down l hfl D B ad κ H.size ((-1) - (nI k))) (vx_cwSW 2 hts gL_refuses_L_down rfl rfl rfl hdS_L_down ⟨Nat.le_of_ble_eq_true rfl, Nat.le_of_ble_eq_true rfl⟩) (sPSz hS.1.left) rfl rfl hl.1 rfl (lv_room (Nat.le_of_ble_eq_true rfl)) dL_refuses_495 ⟨Nat.le_of_ble_eq_true rfl, Nat.le_of_ble_eq_true rfl⟩) hS ((oV_f (no_lo (D := -1) (Y := 0) (by decide +kernel) (by decide +kernel) (by omega) (by omega) (by omega)) : oV ((0 ≤ ((-1) - (nI k)) ∧ ((-1) - (nI k)) ≤ 9)) ((upB (fun r => (-1) * κ 1 (r * 10 + iN ((-1) - (nI k))) * cs (midI (nI r))) 9 10).1) (-2000000001) = (-2000000001))) (fun H locs hS => ?_)
      refine lv_ldc (own := RL) hx hb hown k28 dL_refuses_498 ?_
      refine lv_icmp_ne (tgt := 574) hx hb dL_refuses_500 (by decide) (fun c500 => absurd (rfl) c500) (fun c500 => ?_)
      refine lv_aload_n hx hb dL_refuses_503 rfl (lv_at hl 2 rfl) ?_
      refine lv_bipush (v := 10) hx hb dL_refuses_504 (by decide +kernel) ?_
      refine lv_iload_n hx hb dL_refuses_506 rfl (lv_at hl 3 rfl) ?_
      refine lv_iadd hx hb dL_refuses_507 ?_
      refine lv_topi (fun zz ezz => ?_)
      obtain rfl : zz = nI (10 + k) := ezz.trans (add_l (by decide +kernel))
      refine lv_iload_n hx hb dL_refuses_508 rfl (lv_at hl 0 rfl) ?_
      refine lv_iload_n hx hb dL_refuses_509 rfl (lv_at hl 0 rfl) ?_
      refine l_rd (vx_runSX (hh := [(0, 7, 8, 26), (0, 7, 13, 13)]) (As := [.ref (ad 0), .int (nI (10 + k)), .int oo, .int oo]) (rest := []) ⟨hx, hb, hml, hown, hts⟩ (h_course l hfl D B ad κ H.size (nI (10 + k)) oo oo) (vx_cwSW 4 hts gL_refuses_L_course rfl rfl rfl hdS_L_course ⟨Nat.le_of_ble_eq_true rfl, Nat.le_of_ble_eq_true rfl⟩) (sPSz hS.1.left) rfl rfl hl.1 rfl (lv_room (Nat.le_of_ble_eq_true rfl)) dL_refuses_510 ⟨Nat.le_of_ble_eq_true rfl, Nat.le_of_ble_eq_true rfl⟩) hS ((oL_a (no_hi (m := 9) (by decide +kernel) (by omega) (by omega)) : oL (0 ≤ (nI (10 + k)) ∧ (nI (10 + k)) ≤ 9) ((0 ≤ oo ∧ oo ≤ 359) ∧ (0 ≤ oo ∧ oo ≤ 359)) ((upB (fun h => κ 1 (rN (t360 (oo + -(nI h))) * 10 + iN (nI (10 + k))) * cs (nI h - oo)) 0 360).1) (-2000000001) (-2000000002) = (-2000000001))) (fun H locs hS => ?_)
      refine lv_ldc (own := RL) hx hb hown k28 dL_refuses_513 ?_
      refine lv_icmp_ne (tgt := 574) hx hb dL_refuses_515 (by decide) (fun c515 => absurd (rfl) c515) (fun c515 => ?_)
      refine lv_aload_n hx hb dL_refuses_518 rfl (lv_at hl 2 rfl) ?_
      refine lv_iload_n hx hb dL_refuses_519 rfl (lv_at hl 3 rfl) ?_
      refine lv_bipush (v := 10) hx hb dL_refuses_520 (by decide +kernel) ?_
      refine lv_irem hx hb dL_refuses_522 (by decide +kernel) ?_
      refine lv_topi (fun zz ezz => ?_)
      obtain rfl : zz = nI (k % 10) := ezz.trans (rem_k (by decide +kernel) (by omega) (by omega))
      refine lv_iload_n hx hb dL_refuses_523 rfl (lv_at hl 0 rfl) ?_
      refine lv_iconst (v := 0) hx hb dL_refuses_524 (by decide +kernel) ?_
      refine l_rd (vx_runSX (hh := [(0, 7, 8, 26), (0, 7, 13, 13)]) (As := [.ref (ad 0), .int (nI (k % 10)), .int oo, .int 0]) (rest := []) ⟨hx, hb, hml, hown, hts⟩ (h_course l hfl D B ad κ H.size (nI (k % 10)) oo 0) (vx_cwSW 4 hts gL_refuses_L_course rfl rfl rfl hdS_L_course ⟨Nat.le_of_ble_eq_true rfl, Nat.le_of_ble_eq_true rfl⟩) (sPSz hS.1.left) rfl rfl hl.1 rfl (lv_room (Nat.le_of_ble_eq_true rfl)) dL_refuses_525 ⟨Nat.le_of_ble_eq_true rfl, Nat.le_of_ble_eq_true rfl⟩) hS ((oL_b (in_k (m := 9) (by decide +kernel) (by omega) (by omega)) (fun q => (hoo) q.1) : oL (0 ≤ (nI (k % 10)) ∧ (nI (k % 10)) ≤ 9) ((0 ≤ oo ∧ oo ≤ 359) ∧ (0 ≤ (0 : Int32) ∧ (0 : Int32) ≤ 359)) ((upB (fun h => κ 1 (rN (t360 (oo + -(nI h))) * 10 + iN (nI (k % 10))) * cs (nI h - (0 : Int32))) 0 360).1) (-2000000001) (-2000000002) = (-2000000002))) (fun H locs hS => ?_)
      refine lv_ldc (own := RL) hx hb hown k15 dL_refuses_528 ?_
      refine lv_icmp_ne (tgt := 574) hx hb dL_refuses_530 (by decide) (fun c530 => absurd (rfl) c530) (fun c530 => ?_)
      refine lv_aload_n hx hb dL_refuses_533 rfl (lv_at hl 2 rfl) ?_
      refine lv_iload_n hx hb dL_refuses_534 rfl (lv_at hl 3 rfl) ?_
      refine lv_bipush (v := 10) hx hb dL_refuses_535 (by decide +kernel) ?_
      refine lv_irem hx hb dL_refuses_537 (by decide +kernel) ?_
      refine lv_topi (fun zz ezz => ?_)
      obtain rfl : zz = nI (k % 10) := ezz.trans (rem_k (by decide +kernel) (by omega) (by omega))
      refine lv_iconst (v := 0) hx hb dL_refuses_538 (by decide +kernel) ?_
      refine lv_iload_n hx hb dL_refuses_539 rfl (lv_at hl 0 rfl) ?_
      refine l_rd (vx_runSX (hh := [(0, 7, 8, 26), (0, 7, 13, 13)]) (As := [.ref (ad 0), .int (nI (k % 10)), .int 0, .int oo]) (rest := []) ⟨hx, hb, hml, hown, hts⟩ (h_course l hfl D B ad κ H.size (nI (k % 10)) 0 oo) (vx_cwSW 4 hts gL_refuses_L_course rfl rfl rfl hdS_L_course ⟨Nat.le_of_ble_eq_true rfl, Nat.le_of_ble_eq_true rfl⟩) (sPSz hS.1.left) rfl rfl hl.1 rfl (lv_room (Nat.le_of_ble_eq_true rfl)) dL_refuses_540 ⟨Nat.le_of_ble_eq_true rfl, Nat.le_of_ble_eq_true rfl⟩) hS ((oL_b (in_k (m := 9) (by decide +kernel) (by omega) (by omega)) (fun q => (hoo) q.2) : oL (0 ≤ (nI (k % 10)) ∧ (nI (k % 10)) ≤ 9) ((0 ≤ (0 : Int32) ∧ (0 : Int32) ≤ 359) ∧ (0 ≤ oo ∧ oo ≤ 359)) ((upB (fun h => κ 1 (rN (t360 ((0 : Int32) + -(nI h))) * 10 + iN (nI (k % 10))) * cs (nI h - oo)) 0 360).1) (-2000000001) (-2000000002) = (-2000000002))) (fun H locs hS => ?_)
      refine lv_ldc (own := RL) hx hb hown k15 dL_refuses_543 ?_
      refine lv_icmp_ne (tgt := 574) hx hb dL_refuses_545 (by decide) (fun c545 => absurd (rfl) c545) (fun c545 => ?_)
      refine lv_aload_n hx hb dL_refuses_548 rfl (lv_at hl 2 rfl) ?_
      refine lv_iconst (v := 0) hx hb dL_refuses_549 (by decide +kernel) ?_
      refine l_rd (vx_runSX (hh := [(0, 5, 6, 13)]) (As := [.ref (ad 0), .int 0]) (rest := []) ⟨hx, hb, hml, hown, hts⟩ (h_costs l hfl D B ad κ H.size 0 n hR.1.2.1 hR.1.1) (vx_cwSW 2 hts gL_refuses_L_costs rfl rfl rfl hdS_L_costs ⟨Nat.le_of_ble_eq_true rfl, Nat.le_of_ble_eq_true rfl⟩) (sPSz hS.1.left) rfl rfl hl.1 rfl (lv_room (Nat.le_of_ble_eq_true rfl)) dL_refuses_550 ⟨Nat.le_of_ble_eq_true rfl, Nat.le_of_ble_eq_true rfl⟩) hS ((oV_f ((fun q => q.elim (by decide +kernel) (by decide +kernel))) : oV (((0 : Int32) = 1 ∨ (0 : Int32) = 2)) (costF (κ 12) (κ 4) (κ 9) n (0 : Int32) n) (-2000000002) = (-2000000002))) (fun H locs hS => ?_)
      refine lv_ldc (own := RL) hx hb hown k15 dL_refuses_553 ?_
      refine lv_icmp_ne (tgt := 574) hx hb dL_refuses_555 (by decide) (fun c555 => absurd (rfl) c555) (fun c555 => ?_)
      refine lv_aload_n hx hb dL_refuses_558 rfl (lv_at hl 2 rfl) ?_
      refine lv_iconst (v := 3) hx hb dL_refuses_559 (by decide +kernel) ?_
      refine lv_iload_n hx hb dL_refuses_560 rfl (lv_at hl 3 rfl) ?_
      refine lv_iadd hx hb dL_refuses_561 ?_
      refine lv_topi (fun zz ezz => ?_)
      obtain rfl : zz = nI (3 + k) := ezz.trans (add_l (by decide +kernel))
      refine l_rd (vx_runSX (hh := [(0, 5, 6, 13)]) (As := [.ref (ad 0), .int (nI (3 + k))]) (rest := []) ⟨hx, hb, hml, hown, hts⟩ (h_costs l hfl D B ad κ H.size (nI (3 + k)) n hR.1.2.1 hR.1.1) (vx_cwSW 2 hts gL_refuses_L_costs rfl rfl rfl hdS_L_costs ⟨Nat.le_of_ble_eq_true rfl, Nat.le_of_ble_eq_true rfl⟩) (sPSz hS.1.left) rfl rfl hl.1 rfl (lv_room (Nat.le_of_ble_eq_true rfl)) dL_refuses_562 ⟨Nat.le_of_ble_eq_true rfl, Nat.le_of_ble_eq_true rfl⟩) hS ((oV_f (no_kind (by omega) (by omega)) : oV (((nI (3 + k)) = 1 ∨ (nI (3 + k)) = 2)) (costF (κ 12) (κ 4) (κ 9) n (nI (3 + k)) n) (-2000000002) = (-2000000002))) (fun H locs hS => ?_)
      refine lv_ldc (own := RL) hx hb hown k15 dL_refuses_565 ?_
      refine lv_icmp_ne (tgt := 574) hx hb dL_refuses_567 (by decide) (fun c567 => absurd (rfl) c567) (fun c567 => ?_)
      refine lv_iconst (v := 1) hx hb dL_refuses_570 (by decide +kernel) ?_
      refine lv_goto (tgt := 575) hx hb dL_refuses_571 (by decide) ?_
      refine lv_istore (lv' := [(4, .int 1), (3, .int oo), (2, .int nn), (0, .ref (ad 0)), (1, .int (nI k))]) hx hb dL_refuses_575 hl (by decide) rfl (fun ls hl => ?_)
      refine lv_iload hx hb dL_refuses_577 (lv_at hl 0 rfl) ?_
      refine lv_if_eq (tgt := 631) hx hb dL_refuses_579 (by decide) (fun c579 => absurd c579 (by decide +kernel)) (fun c579 => ?_)
      refine lv_aload_n hx hb dL_refuses_582 rfl (lv_at hl 3 rfl) ?_
      refine s_ciV (As := []) (rest := []) ⟨hx, hb, hml, hown, hts⟩ (c_X3_entries l D B ad κ ) (cwV 0 hts gL_refuses_X3_entries rfl rfl rfl hdV_X3_entries ⟨Nat.le_of_ble_eq_true rfl, Nat.le_of_ble_eq_true rfl⟩) (sPV hS.1.left (ci := 3) (q0 := 0) rfl rfl) rfl hl.1 rfl (Nat.le_of_ble_eq_true rfl) dL_refuses_583 ⟨Nat.le_of_ble_eq_true rfl, Nat.le_of_ble_eq_true rfl⟩ ?_
      refine lv_topi (fun zz ezz => ?_)
      obtain rfl : zz = nI n := ezz.trans (hR.1.2.1)
      refine lv_if_eq (tgt := 627) hx hb dL_refuses_586 (by decide) (fun c586 => ?_) (fun c586 => ?_)
      ·
        refine lv_iconst (v := 1) hx hb dL_refuses_627 (by decide +kernel) ?_
        refine lv_goto (tgt := 632) hx hb dL_refuses_628 (by decide) ?_
        exact l_mzret hx hb hr hlk dL_refuses_632 (Or.inr rfl) (rfl) (rfl) hS (Nat.le_of_ble_eq_true rfl) (Nat.le_of_ble_eq_true rfl)
      ·
        have hn0 : 0 < n := Nat.pos_of_ne_zero (fun q => c586 (by rw [q]; rfl))
        refine lv_aload_n hx hb dL_refuses_589 rfl (lv_at hl 3 rfl) ?_
        refine lv_iconst (v := 0) hx hb dL_refuses_590 (by decide +kernel) ?_
        refine l_rd (vx_runSX (hh := [(0, 5, 6, 26)]) (As := [.ref (ad 0), .int 0]) (rest := []) ⟨hx, hb, hml, hown, hts⟩ (h_east l hfl D B ad κ H.size 0 n hR.1.2.1 hR.1.1 (rel_mi hR)) (vx_cwSW 2 hts gL_refuses_L_east rfl rfl rfl hdS_L_east ⟨Nat.le_of_ble_eq_true rfl, Nat.le_of_ble_eq_true rfl⟩) (sPSz hS.1.left) rfl rfl hl.1 rfl (lv_room (Nat.le_of_ble_eq_true rfl)) dL_refuses_591 ⟨Nat.le_of_ble_eq_true rfl, Nat.le_of_ble_eq_true rfl⟩) hS (((oV_t (ok_0 hR.1.2.1 hR.1.1 hn0)).trans east_0 : oV ((0 ≤ (0 : Int32) ∧ (0 : Int32) ≤ (κ 0 0 - 1))) ((fd6 (wayS (κ 4) (κ 9) (κ 10) (κ 2) (κ 3) 0 (iN (0 : Int32)))).toInt32) (-2000000001) = 0)) (fun H locs hS => ?_)
        refine lv_if_ne (tgt := 631) hx hb dL_refuses_594 (by decide) (fun c594 => absurd (rfl) c594) (fun c594 => ?_)
        refine lv_aload_n hx hb dL_refuses_597 rfl (lv_at hl 3 rfl) ?_
        refine lv_iconst (v := 0) hx hb dL_refuses_598 (by decide +kernel) ?_
        refine l_rd (vx_runSX (hh := [(0, 5, 6, 26)]) (As := [.ref (ad 0), .int 0]) (rest := []) ⟨hx, hb, hml, hown, hts⟩ (h_north l hfl D B ad κ H.size 0 n hR.1.2.1 hR.1.1 (rel_mi hR)) (vx_cwSW 2 hts gL_refuses_L_north rfl rfl rfl hdS_L_north ⟨Nat.le_of_ble_eq_true rfl, Nat.le_of_ble_eq_true rfl⟩) (sPSz hS.1.left) rfl rfl hl.1 rfl (lv_room (Nat.le_of_ble_eq_true rfl)) dL_refuses_599 ⟨Nat.le_of_ble_eq_true rfl, Nat.le_of_ble_eq_true rfl⟩) hS (((oV_t (ok_0 hR.1.2.1 hR.1.1 hn0)).trans east_0 : oV ((0 ≤ (0 : Int32) ∧ (0 : Int32) ≤ (κ 0 0 - 1))) ((fd6 (wayS (κ 4) (κ 9) (κ 10) (κ 2) (κ 3) 90 (iN (0 : Int32)))).toInt32) (-2000000001) = 0)) (fun H locs hS => ?_)
        refine lv_if_ne (tgt := 631) hx hb dL_refuses_602 (by decide) (fun c602 => absurd (rfl) c602) (fun c602 => ?_)
        refine lv_aload_n hx hb dL_refuses_605 rfl (lv_at hl 3 rfl) ?_
        refine lv_iconst (v := 0) hx hb dL_refuses_606 (by decide +kernel) ?_
        refine l_rd (vx_runSX (hh := [(0, 5, 6, 26)]) (As := [.ref (ad 0), .int 0]) (rest := []) ⟨hx, hb, hml, hown, hts⟩ (h_turn l hfl D B ad κ H.size 0 n hR.1.2.1 hR.1.1) (vx_cwSW 2 hts gL_refuses_L_turn rfl rfl rfl hdS_L_turn ⟨Nat.le_of_ble_eq_true rfl, Nat.le_of_ble_eq_true rfl⟩) (sPSz hS.1.left) rfl rfl hl.1 rfl (lv_room (Nat.le_of_ble_eq_true rfl)) dL_refuses_607 ⟨Nat.le_of_ble_eq_true rfl, Nat.le_of_ble_eq_true rfl⟩) hS (((oV_t (ok_0 hR.1.2.1 hR.1.1 hn0)).trans turn_0 : oV ((0 ≤ (0 : Int32) ∧ (0 : Int32) ≤ (κ 0 0 - 1))) (kindF (κ 12) (iN (0 : Int32))) (-2000000001) = 0)) (fun H locs hS => ?_)
        refine lv_if_ne (tgt := 631) hx hb dL_refuses_610 (by decide) (fun c610 => absurd (rfl) c610) (fun c610 => ?_)
        refine lv_aload_n hx hb dL_refuses_613 rfl (lv_at hl 3 rfl) ?_
        refine lv_iconst (v := 0) hx hb dL_refuses_614 (by decide +kernel) ?_
        refine lv_iconst (v := 0) hx hb dL_refuses_615 (by decide +kernel) ?_
        refine lv_iconst (v := 0) hx hb dL_refuses_616 (by decide +kernel) ?_
        refine lv_iconst (v := 0) hx hb dL_refuses_617 (by decide +kernel) ?_
        refine lv_iconst (v := 0) hx hb dL_refuses_618 (by decide +kernel) ?_
        refine l_mt (vx_runSX (hh := [(0, 11, 12, 13), (0, 11, 17, 16)]) (As := [.ref (ad 0), .int 0, .int 0, .int 0, .int 0, .int 0]) (rest := []) ⟨hx, hb, hml, hown, hts⟩ (h_logs l hfl D B ad κ H.size 0 0 0 0 0 n hR.1.2.1 hR.1.1 (rel_fa hR)) (vx_cwSW 6 hts gL_refuses_L_logs rfl rfl rfl hdS_L_logs ⟨Nat.le_of_ble_eq_true rfl, Nat.le_of_ble_eq_true rfl⟩) (sPSz hS.1.left) rfl rfl hl.1 rfl (lv_room (Nat.le_of_ble_eq_true rfl)) dL_refuses_619 ⟨Nat.le_of_ble_eq_true rfl, Nat.le_of_ble_eq_true rfl⟩) hS hAd ((oL_b (by decide +kernel) (log_0 hR hn0) : oL ((0 ≤ (0 : Int32) ∧ (0 : Int32) ≤ 1439) ∧ (0 ≤ (0 : Int32) ∧ (0 : Int32) ≤ 300) ∧ (0 ≤ (0 : Int32) ∧ (0 : Int32) ≤ 359) ∧ (0 ≤ (0 : Int32) ∧ (0 : Int32) ≤ 600) ∧ (0 ≤ (0 : Int32) ∧ (0 : Int32) ≤ 359)) (n < 60 ∧ (n = 0 ∨ κ 4 (n - 1) < (0 : Int32))) (nI n) (-2000000002) (-2000000003) = (-2000000003))) (fun H locs hS => ?_)
        rw [show (if (((0 ≤ (0 : Int32) ∧ (0 : Int32) ≤ 1439) ∧ (0 ≤ (0 : Int32) ∧ (0 : Int32) ≤ 300) ∧ (0 ≤ (0 : Int32) ∧ (0 : Int32) ≤ 359) ∧ (0 ≤ (0 : Int32) ∧ (0 : Int32) ≤ 600) ∧ (0 ≤ (0 : Int32) ∧ (0 : Int32) ≤ 359)) ∧ (n < 60 ∧ (n = 0 ∨ κ 4 (n - 1) < (0 : Int32)))) then (kLog κ n (0 : Int32) (0 : Int32) (0 : Int32) (0 : Int32) (0 : Int32)) else κ) = κ from if_neg (fun q => (log_0 hR hn0) q.2)] at hS
        refine lv_ldc (own := RL) hx hb hown k18 dL_refuses_622 ?_
        refine lv_icmp_ne (tgt := 631) hx hb dL_refuses_624 (by decide) (fun c624 => absurd (rfl) c624) (fun c624 => ?_)
        refine lv_iconst (v := 1) hx hb dL_refuses_627 (by decide +kernel) ?_
        refine lv_goto (tgt := 632) hx hb dL_refuses_628 (by decide) ?_
        exact l_mzret hx hb hr hlk dL_refuses_632 (Or.inr rfl) (rfl) (rfl) hS (Nat.le_of_ble_eq_true rfl) (Nat.le_of_ble_eq_true rfl)
    refine lv_iload_n hx hb dL_refuses_25 rfl (lv_at hl 2 rfl) ?_
    refine lv_iconst (v := 2) hx hb dL_refuses_26 (by decide +kernel) ?_
    refine lv_irem hx hb dL_refuses_27 (by decide +kernel) ?_
    refine lv_topi (fun zz ezz => ?_)
    obtain rfl : zz = nI (k % 2) := ezz.trans (rem_k (by decide +kernel) (by omega) (by omega))
    refine lv_if_ne (tgt := 40) hx hb dL_refuses_28 (by decide) (fun c28 => ?_) (fun c28 => ?_)
    ·
      refine lv_sipush (v := 360) hx hb dL_refuses_40 (by decide +kernel) ?_
      refine lv_iload_n hx hb dL_refuses_43 rfl (lv_at hl 2 rfl) ?_
      refine lv_bipush (v := 50) hx hb dL_refuses_44 (by decide +kernel) ?_
      refine lv_irem hx hb dL_refuses_46 (by decide +kernel) ?_
      refine lv_topi (fun zz ezz => ?_)
      obtain rfl : zz = nI (k % 50) := ezz.trans (rem_k (by decide +kernel) (by omega) (by omega))
      refine lv_iadd hx hb dL_refuses_47 ?_
      refine lv_topi (fun zz ezz => ?_)
      obtain rfl : zz = nI (360 + (k % 50)) := ezz.trans (add_l (by decide +kernel))
      refine W.widen (k := 0) (n := 0) (by omega) (by omega) ?_
      exact j48 (nI (360 + (k % 50))) (no_hi (m := 359) (by decide +kernel) (by omega) (by omega)) _ _ _ hS (lv_sub hl [0, 1, 2] rfl)
    ·
      refine lv_iconst (v := (-1)) hx hb dL_refuses_31 (by decide +kernel) ?_
      refine lv_iload_n hx hb dL_refuses_32 rfl (lv_at hl 2 rfl) ?_
      refine lv_bipush (v := 50) hx hb dL_refuses_33 (by decide +kernel) ?_
      refine lv_irem hx hb dL_refuses_35 (by decide +kernel) ?_
      refine lv_topi (fun zz ezz => ?_)
      obtain rfl : zz = nI (k % 50) := ezz.trans (rem_k (by decide +kernel) (by omega) (by omega))
      refine lv_isub hx hb dL_refuses_36 ?_
      refine lv_goto (tgt := 48) hx hb dL_refuses_37 (by decide) ?_
      refine W.widen (k := 0) (n := 0) (by omega) (by omega) ?_
      exact j48 ((-1) - (nI (k % 50))) (no_lo (D := -1) (Y := 0) (by decide +kernel) (by decide +kernel) (by omega) (by omega) (by omega)) _ _ _ hS (lv_sub hl [0, 1, 2] rfl)
  refine lv_iload_n hx hb dL_refuses_0 rfl (lv_at hl 1 rfl) ?_
  refine lv_iconst (v := 2) hx hb dL_refuses_1 (by decide +kernel) ?_
  refine lv_irem hx hb dL_refuses_2 (by decide +kernel) ?_
  refine lv_topi (fun zz ezz => ?_)
  obtain rfl : zz = nI (k % 2) := ezz.trans (rem_k (by decide +kernel) (by omega) (by omega))
  refine lv_if_ne (tgt := 15) hx hb dL_refuses_3 (by decide) (fun c3 => ?_) (fun c3 => ?_)
  ·
    refine lv_aload_n hx hb dL_refuses_15 rfl (lv_at hl 0 rfl) ?_
    refine s_ciV (As := []) (rest := []) ⟨hx, hb, hml, hown, hts⟩ (c_X3_entries l D B ad κ ) (cwV 0 hts gL_refuses_X3_entries rfl rfl rfl hdV_X3_entries ⟨Nat.le_of_ble_eq_true rfl, Nat.le_of_ble_eq_true rfl⟩) (sPV hS.1.left (ci := 3) (q0 := 0) rfl rfl) rfl hl.1 rfl (Nat.le_of_ble_eq_true rfl) dL_refuses_16 ⟨Nat.le_of_ble_eq_true rfl, Nat.le_of_ble_eq_true rfl⟩ ?_
    refine lv_topi (fun zz ezz => ?_)
    obtain rfl : zz = nI n := ezz.trans (hR.1.2.1)
    refine lv_iload_n hx hb dL_refuses_19 rfl (lv_at hl 1 rfl) ?_
    refine lv_bipush (v := 50) hx hb dL_refuses_20 (by decide +kernel) ?_
    refine lv_irem hx hb dL_refuses_22 (by decide +kernel) ?_
    refine lv_topi (fun zz ezz => ?_)
    obtain rfl : zz = nI (k % 50) := ezz.trans (rem_k (by decide +kernel) (by omega) (by omega))
    refine lv_iadd hx hb dL_refuses_23 ?_
    refine lv_topi (fun zz ezz => ?_)
    obtain rfl : zz = nI (n + (k % 50)) := ezz.trans (nI_add _ _)
    refine W.widen (k := 0) (n := 0) (by omega) (by omega) ?_
    exact j24 (nI (n + (k % 50))) (no_ent hR.1.2.1 hR.1.1 (by omega) (by omega)) _ _ _ hS (lv_sub hl [0, 1] rfl)
  ·
    refine lv_iconst (v := (-1)) hx hb dL_refuses_6 (by decide +kernel) ?_
    refine lv_iload_n hx hb dL_refuses_7 rfl (lv_at hl 1 rfl) ?_
    refine lv_bipush (v := 50) hx hb dL_refuses_8 (by decide +kernel) ?_
    refine lv_irem hx hb dL_refuses_10 (by decide +kernel) ?_
    refine lv_topi (fun zz ezz => ?_)
    obtain rfl : zz = nI (k % 50) := ezz.trans (rem_k (by decide +kernel) (by omega) (by omega))
    refine lv_isub hx hb dL_refuses_11 ?_
    refine lv_goto (tgt := 24) hx hb dL_refuses_12 (by decide) ?_
    refine W.widen (k := 0) (n := 0) (by omega) (by omega) ?_
    exact j24 ((-1) - (nI (k % 50))) (no_lo (D := -1) (Y := 0) (by decide +kernel) (by decide +kernel) (by omega) (by omega) (by omega)) _ _ _ hS (lv_sub hl [0, 1] rfl)
end SLaw3
