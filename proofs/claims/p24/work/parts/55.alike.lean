/-! ===== both alike ===== -/
section SLaw5
set_option maxRecDepth 100000 in
set_option maxHeartbeats 4000000 in
theorem c_L_alike (l : Launch) (hfl : l.flags = flags0) (D : sD) (B : Nat) (ad : Nat → Nat) (bd : Nat → Nat) (κ μ : sQ) (sz : Nat) (mm x : Nat) (hmm : mm < 360) (hx0 : x < 2 ^ 31) (τ σ : sQ) (n : Nat) (h1 : sRel κ τ n) (h2 : sRel μ σ n) (hT : tw mm τ σ n) (hG : sG τ n) : vx_Met l yL_alike wsL_alike ({ frames := 10, cells := 1200, slots := 7200, locals := 168 } : Room) (sPz D B (CW D ad κ ++ CW D bd μ) sz ([.ref (ad 0), .ref (bd 0), .int (nI mm), .int (nI x)] : List Value)) (va_Qi (S := Unit) (fun rr _ => rr = 1) (fun _ _ => True) (rA 0 ad sz)) (fun _ _ _ => False) 1200 7200 (rA 0 ad sz) := by
  refine s_headX (cc := cL_alike) (maxL := 6) (ret := (some .boolean)) (by decide +kernel) rfl (Nat.le_of_ble_eq_true rfl) ?_
  intro p e s m below meth c hx hb hr hlk hml hown hno hts hB0 ls hl
  obtain ⟨hsz, hJ⟩ := hB0
  subst hsz
  have hown : s.vm.findClass RL = some m.cls := hown
  have hl : lv_has ls 6 [(0, .ref (ad 0)), (1, .ref (bd 0)), (2, .int (nI mm)), (3, .int (nI x))] := hl
  have hS := rS.start (n := 0) (ad := ad) hJ
  have hn60 := h1.1.1
  refine lv_aload_n hx hb dL_alike_0 rfl (lv_at hl 0 rfl) ?_
  refine s_ciV (As := []) (rest := []) ⟨hx, hb, hml, hown, hts⟩ (c_X3_entries l D B ad κ ) (cwV 0 hts gL_alike_X3_entries rfl rfl rfl hdV_X3_entries ⟨Nat.le_of_ble_eq_true rfl, Nat.le_of_ble_eq_true rfl⟩) (sPV hS.1.left (ci := 3) (q0 := 0) rfl rfl) rfl hl.1 rfl (Nat.le_of_ble_eq_true rfl) dL_alike_1 ⟨Nat.le_of_ble_eq_true rfl, Nat.le_of_ble_eq_true rfl⟩ ?_
  refine lv_topi (fun zz ezz => ?_)
  obtain rfl : zz = nI n := ezz.trans (h1.1.2.1)
  refine lv_aload_n hx hb dL_alike_4 rfl (lv_at hl 1 rfl) ?_
  refine s_ciV (As := []) (rest := [.int (nI n)]) ⟨hx, hb, hml, hown, hts⟩ (c_X3_entries l D B bd μ ) (cwV 0 hts gL_alike_X3_entries rfl rfl rfl hdV_X3_entries ⟨Nat.le_of_ble_eq_true rfl, Nat.le_of_ble_eq_true rfl⟩) (sPV hS.1.swap.left (ci := 3) (q0 := 0) rfl rfl) rfl hl.1 rfl (Nat.le_of_ble_eq_true rfl) dL_alike_5 ⟨Nat.le_of_ble_eq_true rfl, Nat.le_of_ble_eq_true rfl⟩ ?_
  refine lv_topi (fun zz ezz => ?_)
  obtain rfl : zz = nI n := ezz.trans (h2.1.2.1)
  refine lv_icmp_ne (tgt := 52) hx hb dL_alike_8 (by decide) (fun c8 => absurd (rfl) c8) (fun c8 => ?_)
  refine lv_aload_n hx hb dL_alike_11 rfl (lv_at hl 0 rfl) ?_
  refine s_ciV (As := []) (rest := []) ⟨hx, hb, hml, hown, hts⟩ (c_X3_vaneShown l D B ad κ n h1.1.2.1 h1.1.1) (cwV 0 hts gL_alike_X3_vaneShown rfl rfl rfl hdV_X3_vaneShown ⟨Nat.le_of_ble_eq_true rfl, Nat.le_of_ble_eq_true rfl⟩) (sPV hS.1.left (ci := 3) (q0 := 0) rfl rfl) rfl hl.1 rfl (Nat.le_of_ble_eq_true rfl) dL_alike_12 ⟨Nat.le_of_ble_eq_true rfl, Nat.le_of_ble_eq_true rfl⟩ ?_
  refine lv_aload_n hx hb dL_alike_15 rfl (lv_at hl 1 rfl) ?_
  refine s_ciV (As := []) (rest := [.int (vnF (κ 12) n)]) ⟨hx, hb, hml, hown, hts⟩ (c_X3_vaneShown l D B bd μ n h2.1.2.1 h2.1.1) (cwV 0 hts gL_alike_X3_vaneShown rfl rfl rfl hdV_X3_vaneShown ⟨Nat.le_of_ble_eq_true rfl, Nat.le_of_ble_eq_true rfl⟩) (sPV hS.1.swap.left (ci := 3) (q0 := 0) rfl rfl) rfl hl.1 rfl (Nat.le_of_ble_eq_true rfl) dL_alike_16 ⟨Nat.le_of_ble_eq_true rfl, Nat.le_of_ble_eq_true rfl⟩ ?_
  refine lv_topi (fun zz ezz => ?_)
  obtain rfl : zz = vnF (κ 12) n := ezz.trans ((al_vane h1 h2 hT).symm)
  refine lv_icmp_ne (tgt := 52) hx hb dL_alike_19 (by decide) (fun c19 => absurd (rfl) c19) (fun c19 => ?_)
  refine lv_aload_n hx hb dL_alike_22 rfl (lv_at hl 0 rfl) ?_
  refine lv_iconst (v := 1) hx hb dL_alike_23 (by decide +kernel) ?_
  refine l_rd (vx_runSX (hh := [(0, 5, 6, 13)]) (As := [.ref (ad 0), .int 1]) (rest := []) ⟨hx, hb, hml, hown, hts⟩ (h_costs l hfl D B ad κ s.heap.size 1 n h1.1.2.1 h1.1.1) (vx_cwSW 2 hts gL_alike_L_costs rfl rfl rfl hdS_L_costs ⟨Nat.le_of_ble_eq_true rfl, Nat.le_of_ble_eq_true rfl⟩) (sPSz hS.1.left) rfl rfl hl.1 rfl (lv_room (Nat.le_of_ble_eq_true rfl)) dL_alike_24 ⟨Nat.le_of_ble_eq_true rfl, Nat.le_of_ble_eq_true rfl⟩) hS (((oV_t (Or.inl rfl)) : oV (((1 : Int32) = 1 ∨ (1 : Int32) = 2)) (costF (κ 12) (κ 4) (κ 9) n (1 : Int32) n) (-2000000002) = costF (κ 12) (κ 4) (κ 9) n 1 n)) (fun H locs hS => ?_)
  refine lv_aload_n hx hb dL_alike_27 rfl (lv_at hl 1 rfl) ?_
  refine lv_iconst (v := 1) hx hb dL_alike_28 (by decide +kernel) ?_
  refine l_rd (vx_runSX (hh := [(0, 5, 6, 13)]) (As := [.ref (bd 0), .int 1]) (rest := [.int (costF (κ 12) (κ 4) (κ 9) n 1 n)]) ⟨hx, hb, hml, hown, hts⟩ (h_costs l hfl D B bd μ H.size 1 n h2.1.2.1 h2.1.1) (vx_cwSW 2 hts gL_alike_L_costs rfl rfl rfl hdS_L_costs ⟨Nat.le_of_ble_eq_true rfl, Nat.le_of_ble_eq_true rfl⟩) (sPSz hS.1.swap.left) rfl rfl hl.1 rfl (lv_room (Nat.le_of_ble_eq_true rfl)) dL_alike_29 ⟨Nat.le_of_ble_eq_true rfl, Nat.le_of_ble_eq_true rfl⟩) hS (((oV_t (Or.inl rfl)).trans (al_costs h1 h2 hT 1).symm : oV (((1 : Int32) = 1 ∨ (1 : Int32) = 2)) (costF (μ 12) (μ 4) (μ 9) n (1 : Int32) n) (-2000000002) = costF (κ 12) (κ 4) (κ 9) n 1 n)) (fun H locs hS => ?_)
  refine lv_icmp_ne (tgt := 52) hx hb dL_alike_32 (by decide) (fun c32 => absurd (rfl) c32) (fun c32 => ?_)
  refine lv_aload_n hx hb dL_alike_35 rfl (lv_at hl 0 rfl) ?_
  refine lv_iconst (v := 2) hx hb dL_alike_36 (by decide +kernel) ?_
  refine l_rd (vx_runSX (hh := [(0, 5, 6, 13)]) (As := [.ref (ad 0), .int 2]) (rest := []) ⟨hx, hb, hml, hown, hts⟩ (h_costs l hfl D B ad κ H.size 2 n h1.1.2.1 h1.1.1) (vx_cwSW 2 hts gL_alike_L_costs rfl rfl rfl hdS_L_costs ⟨Nat.le_of_ble_eq_true rfl, Nat.le_of_ble_eq_true rfl⟩) (sPSz hS.1.left) rfl rfl hl.1 rfl (lv_room (Nat.le_of_ble_eq_true rfl)) dL_alike_37 ⟨Nat.le_of_ble_eq_true rfl, Nat.le_of_ble_eq_true rfl⟩) hS (((oV_t (Or.inr rfl)) : oV (((2 : Int32) = 1 ∨ (2 : Int32) = 2)) (costF (κ 12) (κ 4) (κ 9) n (2 : Int32) n) (-2000000002) = costF (κ 12) (κ 4) (κ 9) n 2 n)) (fun H locs hS => ?_)
  refine lv_aload_n hx hb dL_alike_40 rfl (lv_at hl 1 rfl) ?_
  refine lv_iconst (v := 2) hx hb dL_alike_41 (by decide +kernel) ?_
  refine l_rd (vx_runSX (hh := [(0, 5, 6, 13)]) (As := [.ref (bd 0), .int 2]) (rest := [.int (costF (κ 12) (κ 4) (κ 9) n 2 n)]) ⟨hx, hb, hml, hown, hts⟩ (h_costs l hfl D B bd μ H.size 2 n h2.1.2.1 h2.1.1) (vx_cwSW 2 hts gL_alike_L_costs rfl rfl rfl hdS_L_costs ⟨Nat.le_of_ble_eq_true rfl, Nat.le_of_ble_eq_true rfl⟩) (sPSz hS.1.swap.left) rfl rfl hl.1 rfl (lv_room (Nat.le_of_ble_eq_true rfl)) dL_alike_42 ⟨Nat.le_of_ble_eq_true rfl, Nat.le_of_ble_eq_true rfl⟩) hS (((oV_t (Or.inr rfl)).trans (al_costs h1 h2 hT 2).symm : oV (((2 : Int32) = 1 ∨ (2 : Int32) = 2)) (costF (μ 12) (μ 4) (μ 9) n (2 : Int32) n) (-2000000002) = costF (κ 12) (κ 4) (κ 9) n 2 n)) (fun H locs hS => ?_)
  refine lv_icmp_ne (tgt := 52) hx hb dL_alike_45 (by decide) (fun c45 => absurd (rfl) c45) (fun c45 => ?_)
  refine lv_iconst (v := 1) hx hb dL_alike_48 (by decide +kernel) ?_
  refine lv_goto (tgt := 53) hx hb dL_alike_49 (by decide) ?_
  refine lv_istore (lv' := [(4, .int 1), (0, .ref (ad 0)), (1, .ref (bd 0)), (2, .int (nI mm)), (3, .int (nI x))]) hx hb dL_alike_53 hl (by decide) rfl (fun ls hl => ?_)
  refine lv_iconst (v := 0) hx hb dL_alike_55 (by decide +kernel) ?_
  refine lv_istore (lv' := [(5, .int 0), (4, .int 1), (0, .ref (ad 0)), (1, .ref (bd 0)), (2, .int (nI mm)), (3, .int (nI x))]) hx hb dL_alike_56 hl (by decide) rfl (fun ls hl => ?_)
  have loop58 : ∀ (fuel : Nat) (k : Nat) (hfu : n + 1 ≤ k + fuel) (hkn : k ≤ n) (H : Heap) (locs : List Loc) (ls : Array Slot), rS D B (rA 0 ad s.heap.size) (CW D ad κ ++ CW D bd μ) s H locs → lv_has ls 6 [(0, .ref (ad 0)), (1, .ref (bd 0)), (2, .int (nI mm)), (3, .int (nI x)), (4, .int 1), (5, .int (nI k))] → W p l e ({ frames := 10, cells := 1200, slots := 7200, locals := 168 } : Room) s m ([.ref (ad 0), .ref (bd 0), .int (nI mm), .int (nI x)] : List Value).toArray below meth c H locs (18 * k + 4) (108 * k + 24) (vx_MQ below (va_Qi (S := Unit) (fun rr _ => rr = 1) (fun _ _ => True) (rA 0 ad s.heap.size)) (fun _ _ _ => False) ([.ref (ad 0), .ref (bd 0), .int (nI mm), .int (nI x)] : List Value).toArray s 1200 7200 (rA 0 ad s.heap.size)) (F0 m 58 ls []) := by
    intro fuel
    induction fuel with
    | zero => intro k hfu hkn H locs ls hS hl; exact absurd (hfu) (by omega)
    | succ fuel ih58 =>
      intro k hfu hkn H locs ls hS hl
      refine lv_iload hx hb dL_alike_58 (lv_at hl 5 rfl) ?_
      refine lv_aload_n hx hb dL_alike_60 rfl (lv_at hl 0 rfl) ?_
      refine s_ciV (As := []) (rest := [.int (nI k)]) ⟨hx, hb, hml, hown, hts⟩ (c_X3_entries l D B ad κ ) (cwV 0 hts gL_alike_X3_entries rfl rfl rfl hdV_X3_entries ⟨Nat.le_of_ble_eq_true rfl, Nat.le_of_ble_eq_true rfl⟩) (sPV hS.1.left (ci := 3) (q0 := 0) rfl rfl) rfl hl.1 rfl (Nat.le_of_ble_eq_true rfl) dL_alike_61 ⟨(by show _ ≤ 1200; omega), (by show _ ≤ 7200; omega)⟩ ?_
      refine lv_topi (fun zz ezz => ?_)
      obtain rfl : zz = nI n := ezz.trans (h1.1.2.1)
      refine lv_icmp_ge (tgt := 230) hx hb dL_alike_64 (by decide) (fun c64 => ?_) (fun c64 => ?_)
      ·
        refine lv_iload hx hb dL_alike_230 (lv_at hl 4 rfl) ?_
        refine lv_if_eq (tgt := 316) hx hb dL_alike_232 (by decide) (fun c232 => absurd c232 (by decide +kernel)) (fun c232 => ?_)
        refine lv_aload_n hx hb dL_alike_235 rfl (lv_at hl 0 rfl) ?_
        refine lv_iload_n hx hb dL_alike_236 rfl (lv_at hl 3 rfl) ?_
        refine lv_bipush (v := 19) hx hb dL_alike_237 (by decide +kernel) ?_
        refine lv_irem hx hb dL_alike_239 (by decide +kernel) ?_
        refine lv_topi (fun zz ezz => ?_)
        obtain rfl : zz = nI (x % 19) := ezz.trans (rem_k (by decide +kernel) (by omega) (by omega))
        refine lv_iload_n hx hb dL_alike_240 rfl (lv_at hl 3 rfl) ?_
        refine lv_bipush (v := 19) hx hb dL_alike_241 (by decide +kernel) ?_
        refine lv_idiv hx hb dL_alike_243 (by decide +kernel) ?_
        refine lv_topi (fun zz ezz => ?_)
        obtain rfl : zz = nI (x / 19) := ezz.trans (div_k (by decide +kernel) (by omega) (by omega))
        refine lv_bipush (v := 10) hx hb dL_alike_244 (by decide +kernel) ?_
        refine lv_irem hx hb dL_alike_246 (by decide +kernel) ?_
        refine lv_topi (fun zz ezz => ?_)
        obtain rfl : zz = nI ((x / 19) % 10) := ezz.trans (rem_k (by decide +kernel) (by omega) (by omega))
        refine l_rd (vx_runSX (hh := [(0, 6, 7, 26)]) (As := [.ref (ad 0), .int (nI (x % 19)), .int (nI ((x / 19) % 10))]) (rest := []) ⟨hx, hb, hml, hown, hts⟩ (h_best l hfl D B ad κ H.size (nI (x % 19)) (nI ((x / 19) % 10))) (vx_cwSW 3 hts gL_alike_L_best rfl rfl rfl hdS_L_best ⟨Nat.le_of_ble_eq_true rfl, Nat.le_of_ble_eq_true rfl⟩) (sPSz hS.1.left) rfl rfl hl.1 rfl (lv_room (Nat.le_of_ble_eq_true rfl)) dL_alike_247 ⟨(by show _ ≤ 1200; omega), (by show _ ≤ 7200; omega)⟩) hS ((oV_t ⟨in_k (m := 18) (by decide +kernel) (by omega) (by omega), in_k (m := 9) (by decide +kernel) (by omega) (by omega)⟩ : oV (((0 ≤ (nI (x % 19)) ∧ (nI (x % 19)) ≤ 18) ∧ (0 ≤ (nI ((x / 19) % 10)) ∧ (nI ((x / 19) % 10)) ≤ 9))) (κ 1 (iN (nI (x % 19)) * 10 + iN (nI ((x / 19) % 10)))) (-2000000001) = κ 1 (iN (nI (x % 19)) * 10 + iN (nI (x / 19 % 10))))) (fun H locs hS => ?_)
        refine lv_aload_n hx hb dL_alike_250 rfl (lv_at hl 1 rfl) ?_
        refine lv_iload_n hx hb dL_alike_251 rfl (lv_at hl 3 rfl) ?_
        refine lv_bipush (v := 19) hx hb dL_alike_252 (by decide +kernel) ?_
        refine lv_irem hx hb dL_alike_254 (by decide +kernel) ?_
        refine lv_topi (fun zz ezz => ?_)
        obtain rfl : zz = nI (x % 19) := ezz.trans (rem_k (by decide +kernel) (by omega) (by omega))
        refine lv_iload_n hx hb dL_alike_255 rfl (lv_at hl 3 rfl) ?_
        refine lv_bipush (v := 19) hx hb dL_alike_256 (by decide +kernel) ?_
        refine lv_idiv hx hb dL_alike_258 (by decide +kernel) ?_
        refine lv_topi (fun zz ezz => ?_)
        obtain rfl : zz = nI (x / 19) := ezz.trans (div_k (by decide +kernel) (by omega) (by omega))
        refine lv_bipush (v := 10) hx hb dL_alike_259 (by decide +kernel) ?_
        refine lv_irem hx hb dL_alike_261 (by decide +kernel) ?_
        refine lv_topi (fun zz ezz => ?_)
        obtain rfl : zz = nI ((x / 19) % 10) := ezz.trans (rem_k (by decide +kernel) (by omega) (by omega))
        refine l_rd (vx_runSX (hh := [(0, 6, 7, 26)]) (As := [.ref (bd 0), .int (nI (x % 19)), .int (nI ((x / 19) % 10))]) (rest := [.int (κ 1 (iN (nI (x % 19)) * 10 + iN (nI (x / 19 % 10))))]) ⟨hx, hb, hml, hown, hts⟩ (h_best l hfl D B bd μ H.size (nI (x % 19)) (nI ((x / 19) % 10))) (vx_cwSW 3 hts gL_alike_L_best rfl rfl rfl hdS_L_best ⟨Nat.le_of_ble_eq_true rfl, Nat.le_of_ble_eq_true rfl⟩) (sPSz hS.1.swap.left) rfl rfl hl.1 rfl (lv_room (Nat.le_of_ble_eq_true rfl)) dL_alike_262 ⟨(by show _ ≤ 1200; omega), (by show _ ≤ 7200; omega)⟩) hS (((oV_t ⟨in_k (m := 18) (by decide +kernel) (by omega) (by omega), in_k (m := 9) (by decide +kernel) (by omega) (by omega)⟩).trans (al_best h1 h2 hT (in_k (m := 18) (by decide +kernel) (by omega) (by omega)) (in_k (m := 9) (by decide +kernel) (by omega) (by omega))).symm : oV (((0 ≤ (nI (x % 19)) ∧ (nI (x % 19)) ≤ 18) ∧ (0 ≤ (nI ((x / 19) % 10)) ∧ (nI ((x / 19) % 10)) ≤ 9))) (μ 1 (iN (nI (x % 19)) * 10 + iN (nI ((x / 19) % 10)))) (-2000000001) = κ 1 (iN (nI (x % 19)) * 10 + iN (nI (x / 19 % 10))))) (fun H locs hS => ?_)
        refine lv_icmp_ne (tgt := 316) hx hb dL_alike_265 (by decide) (fun c265 => absurd (rfl) c265) (fun c265 => ?_)
        refine lv_aload_n hx hb dL_alike_268 rfl (lv_at hl 0 rfl) ?_
        refine lv_iload_n hx hb dL_alike_269 rfl (lv_at hl 3 rfl) ?_
        refine lv_bipush (v := 10) hx hb dL_alike_270 (by decide +kernel) ?_
        refine lv_irem hx hb dL_alike_272 (by decide +kernel) ?_
        refine lv_topi (fun zz ezz => ?_)
        obtain rfl : zz = nI (x % 10) := ezz.trans (rem_k (by decide +kernel) (by omega) (by omega))
        refine l_rd (vx_runSX (hh := [(0, 5, 6, 26)]) (As := [.ref (ad 0), .int (nI (x % 10))]) (rest := []) ⟨hx, hb, hml, hown, hts⟩ (h_up l hfl D B ad κ H.size (nI (x % 10))) (vx_cwSW 2 hts gL_alike_L_up rfl rfl rfl hdS_L_up ⟨Nat.le_of_ble_eq_true rfl, Nat.le_of_ble_eq_true rfl⟩) (sPSz hS.1.left) rfl rfl hl.1 rfl (lv_room (Nat.le_of_ble_eq_true rfl)) dL_alike_273 ⟨(by show _ ≤ 1200; omega), (by show _ ≤ 7200; omega)⟩) hS ((oV_t (in_k (m := 9) (by decide +kernel) (by omega) (by omega)) : oV ((0 ≤ (nI (x % 10)) ∧ (nI (x % 10)) ≤ 9)) ((upB (fun r => 1 * κ 1 (r * 10 + iN (nI (x % 10))) * cs (midI (nI r))) 0 9).1) (-2000000001) = (upB (fun r => 1 * κ 1 (r * 10 + iN (nI (x % 10))) * cs (midI (nI r))) 0 9).1)) (fun H locs hS => ?_)
        refine lv_aload_n hx hb dL_alike_276 rfl (lv_at hl 1 rfl) ?_
        refine lv_iload_n hx hb dL_alike_277 rfl (lv_at hl 3 rfl) ?_
        refine lv_bipush (v := 10) hx hb dL_alike_278 (by decide +kernel) ?_
        refine lv_irem hx hb dL_alike_280 (by decide +kernel) ?_
        refine lv_topi (fun zz ezz => ?_)
        obtain rfl : zz = nI (x % 10) := ezz.trans (rem_k (by decide +kernel) (by omega) (by omega))
        refine l_rd (vx_runSX (hh := [(0, 5, 6, 26)]) (As := [.ref (bd 0), .int (nI (x % 10))]) (rest := [.int ((upB (fun r => 1 * κ 1 (r * 10 + iN (nI (x % 10))) * cs (midI (nI r))) 0 9).1)]) ⟨hx, hb, hml, hown, hts⟩ (h_up l hfl D B bd μ H.size (nI (x % 10))) (vx_cwSW 2 hts gL_alike_L_up rfl rfl rfl hdS_L_up ⟨Nat.le_of_ble_eq_true rfl, Nat.le_of_ble_eq_true rfl⟩) (sPSz hS.1.swap.left) rfl rfl hl.1 rfl (lv_room (Nat.le_of_ble_eq_true rfl)) dL_alike_281 ⟨(by show _ ≤ 1200; omega), (by show _ ≤ 7200; omega)⟩) hS (((oV_t (in_k (m := 9) (by decide +kernel) (by omega) (by omega))).trans (al_up h1 h2 hT (in_k (m := 9) (by decide +kernel) (by omega) (by omega)) 1 0 9 (by omega)).symm : oV ((0 ≤ (nI (x % 10)) ∧ (nI (x % 10)) ≤ 9)) ((upB (fun r => 1 * μ 1 (r * 10 + iN (nI (x % 10))) * cs (midI (nI r))) 0 9).1) (-2000000001) = (upB (fun r => 1 * κ 1 (r * 10 + iN (nI (x % 10))) * cs (midI (nI r))) 0 9).1)) (fun H locs hS => ?_)
        refine lv_icmp_ne (tgt := 316) hx hb dL_alike_284 (by decide) (fun c284 => absurd (rfl) c284) (fun c284 => ?_)
        refine lv_aload_n hx hb dL_alike_287 rfl (lv_at hl 0 rfl) ?_
        refine lv_iload_n hx hb dL_alike_288 rfl (lv_at hl 3 rfl) ?_
        refine lv_bipush (v := 10) hx hb dL_alike_289 (by decide +kernel) ?_
        refine lv_idiv hx hb dL_alike_291 (by decide +kernel) ?_
        refine lv_topi (fun zz ezz => ?_)
        obtain rfl : zz = nI (x / 10) := ezz.trans (div_k (by decide +kernel) (by omega) (by omega))
        refine lv_bipush (v := 10) hx hb dL_alike_292 (by decide +kernel) ?_
        refine lv_irem hx hb dL_alike_294 (by decide +kernel) ?_
        refine lv_topi (fun zz ezz => ?_)
        obtain rfl : zz = nI ((x / 10) % 10) := ezz.trans (rem_k (by decide +kernel) (by omega) (by omega))
        refine l_rd (vx_runSX (hh := [(0, 5, 6, 26)]) (As := [.ref (ad 0), .int (nI ((x / 10) % 10))]) (rest := []) ⟨hx, hb, hml, hown, hts⟩ (h_down l hfl D B ad κ H.size (nI ((x / 10) % 10))) (vx_cwSW 2 hts gL_alike_L_down rfl rfl rfl hdS_L_down ⟨Nat.le_of_ble_eq_true rfl, Nat.le_of_ble_eq_true rfl⟩) (sPSz hS.1.left) rfl rfl hl.1 rfl (lv_room (Nat.le_of_ble_eq_true rfl)) dL_alike_295 ⟨(by show _ ≤ 1200; omega), (by show _ ≤ 7200; omega)⟩) hS ((oV_t (in_k (m := 9) (by decide +kernel) (by omega) (by omega)) : oV ((0 ≤ (nI ((x / 10) % 10)) ∧ (nI ((x / 10) % 10)) ≤ 9)) ((upB (fun r => (-1) * κ 1 (r * 10 + iN (nI ((x / 10) % 10))) * cs (midI (nI r))) 9 10).1) (-2000000001) = (upB (fun r => (-1) * κ 1 (r * 10 + iN (nI (x / 10 % 10))) * cs (midI (nI r))) 9 10).1)) (fun H locs hS => ?_)
        refine lv_aload_n hx hb dL_alike_298 rfl (lv_at hl 1 rfl) ?_
        refine lv_iload_n hx hb dL_alike_299 rfl (lv_at hl 3 rfl) ?_
        refine lv_bipush (v := 10) hx hb dL_alike_300 (by decide +kernel) ?_
        refine lv_idiv hx hb dL_alike_302 (by decide +kernel) ?_
        refine lv_topi (fun zz ezz => ?_)
        obtain rfl : zz = nI (x / 10) := ezz.trans (div_k (by decide +kernel) (by omega) (by omega))
        refine lv_bipush (v := 10) hx hb dL_alike_303 (by decide +kernel) ?_
        refine lv_irem hx hb dL_alike_305 (by decide +kernel) ?_
        refine lv_topi (fun zz ezz => ?_)
        obtain rfl : zz = nI ((x / 10) % 10) := ezz.trans (rem_k (by decide +kernel) (by omega) (by omega))
        refine l_rd (vx_runSX (hh := [(0, 5, 6, 26)]) (As := [.ref (bd 0), .int (nI ((x / 10) % 10))]) (rest := [.int ((upB (fun r => (-1) * κ 1 (r * 10 + iN (nI (x / 10 % 10))) * cs (midI (nI r))) 9 10).1)]) ⟨hx, hb, hml, hown, hts⟩ (h_down l hfl D B bd μ H.size (nI ((x / 10) % 10))) (vx_cwSW 2 hts gL_alike_L_down rfl rfl rfl hdS_L_down ⟨Nat.le_of_ble_eq_true rfl, Nat.le_of_ble_eq_true rfl⟩) (sPSz hS.1.swap.left) rfl rfl hl.1 rfl (lv_room (Nat.le_of_ble_eq_true rfl)) dL_alike_306 ⟨(by show _ ≤ 1200; omega), (by show _ ≤ 7200; omega)⟩) hS (((oV_t (in_k (m := 9) (by decide +kernel) (by omega) (by omega))).trans (al_up h1 h2 hT (in_k (m := 9) (by decide +kernel) (by omega) (by omega)) (-1) 9 10 (by omega)).symm : oV ((0 ≤ (nI ((x / 10) % 10)) ∧ (nI ((x / 10) % 10)) ≤ 9)) ((upB (fun r => (-1) * μ 1 (r * 10 + iN (nI ((x / 10) % 10))) * cs (midI (nI r))) 9 10).1) (-2000000001) = (upB (fun r => (-1) * κ 1 (r * 10 + iN (nI (x / 10 % 10))) * cs (midI (nI r))) 9 10).1)) (fun H locs hS => ?_)
        refine lv_icmp_ne (tgt := 316) hx hb dL_alike_309 (by decide) (fun c309 => absurd (rfl) c309) (fun c309 => ?_)
        refine lv_iconst (v := 1) hx hb dL_alike_312 (by decide +kernel) ?_
        refine lv_goto (tgt := 317) hx hb dL_alike_313 (by decide) ?_
        exact l_rzret hx hb hr hlk dL_alike_317 (Or.inr rfl) (rfl) hS (by omega) (by omega)
      ·
        have hk : k < n := Nat.lt_of_not_le (fun q => c64 (nI_le q (by omega)))
        have ik : iN (nI k) = k := iN_k (by omega)
        refine lv_iload hx hb dL_alike_67 (lv_at hl 4 rfl) ?_
        refine lv_if_eq (tgt := 230) hx hb dL_alike_69 (by decide) (fun c69 => absurd c69 (by decide +kernel)) (fun c69 => ?_)
        refine lv_aload_n hx hb dL_alike_72 rfl (lv_at hl 0 rfl) ?_
        refine lv_iload hx hb dL_alike_73 (lv_at hl 5 rfl) ?_
        refine l_rd (vx_runSX (hh := [(0, 5, 6, 26)]) (As := [.ref (ad 0), .int (nI k)]) (rest := []) ⟨hx, hb, hml, hown, hts⟩ (h_speed l hfl D B ad κ H.size (nI k) n h1.1.2.1 h1.1.1) (vx_cwSW 2 hts gL_alike_L_speed rfl rfl rfl hdS_L_speed ⟨Nat.le_of_ble_eq_true rfl, Nat.le_of_ble_eq_true rfl⟩) (sPSz hS.1.left) rfl rfl hl.1 rfl (lv_room (Nat.le_of_ble_eq_true rfl)) dL_alike_75 ⟨(by show _ ≤ 1200; omega), (by show _ ≤ 7200; omega)⟩) hS (((oV_t (ok_k h1.1.2.1 h1.1.1 hk)).trans (by rw [ik]) : oV ((0 ≤ (nI k) ∧ (nI k) ≤ (κ 0 0 - 1))) (κ 9 (iN (nI k))) (-2000000001) = κ 9 k)) (fun H locs hS => ?_)
        refine lv_aload_n hx hb dL_alike_78 rfl (lv_at hl 1 rfl) ?_
        refine lv_iload hx hb dL_alike_79 (lv_at hl 5 rfl) ?_
        refine l_rd (vx_runSX (hh := [(0, 5, 6, 26)]) (As := [.ref (bd 0), .int (nI k)]) (rest := [.int (κ 9 k)]) ⟨hx, hb, hml, hown, hts⟩ (h_speed l hfl D B bd μ H.size (nI k) n h2.1.2.1 h2.1.1) (vx_cwSW 2 hts gL_alike_L_speed rfl rfl rfl hdS_L_speed ⟨Nat.le_of_ble_eq_true rfl, Nat.le_of_ble_eq_true rfl⟩) (sPSz hS.1.swap.left) rfl rfl hl.1 rfl (lv_room (Nat.le_of_ble_eq_true rfl)) dL_alike_81 ⟨(by show _ ≤ 1200; omega), (by show _ ≤ 7200; omega)⟩) hS (((oV_t (ok_k h2.1.2.1 h2.1.1 hk)).trans (by rw [ik]; exact ((al_E h1 h2 hT k hk).1).symm) : oV ((0 ≤ (nI k) ∧ (nI k) ≤ (μ 0 0 - 1))) (μ 9 (iN (nI k))) (-2000000001) = κ 9 k)) (fun H locs hS => ?_)
        refine lv_icmp_ne (tgt := 221) hx hb dL_alike_84 (by decide) (fun c84 => absurd (rfl) c84) (fun c84 => ?_)
        refine lv_aload_n hx hb dL_alike_87 rfl (lv_at hl 0 rfl) ?_
        refine lv_iload hx hb dL_alike_88 (lv_at hl 5 rfl) ?_
        refine l_rd (vx_runSX (hh := [(0, 5, 6, 26)]) (As := [.ref (ad 0), .int (nI k)]) (rest := []) ⟨hx, hb, hml, hown, hts⟩ (h_strength l hfl D B ad κ H.size (nI k) n h1.1.2.1 h1.1.1) (vx_cwSW 2 hts gL_alike_L_strength rfl rfl rfl hdS_L_strength ⟨Nat.le_of_ble_eq_true rfl, Nat.le_of_ble_eq_true rfl⟩) (sPSz hS.1.left) rfl rfl hl.1 rfl (lv_room (Nat.le_of_ble_eq_true rfl)) dL_alike_90 ⟨(by show _ ≤ 1200; omega), (by show _ ≤ 7200; omega)⟩) hS (((oV_t (ok_k h1.1.2.1 h1.1.1 hk)).trans (by rw [ik]) : oV ((0 ≤ (nI k) ∧ (nI k) ≤ (κ 0 0 - 1))) (κ 11 (iN (nI k))) (-2000000001) = κ 11 k)) (fun H locs hS => ?_)
        refine lv_aload_n hx hb dL_alike_93 rfl (lv_at hl 1 rfl) ?_
        refine lv_iload hx hb dL_alike_94 (lv_at hl 5 rfl) ?_
        refine l_rd (vx_runSX (hh := [(0, 5, 6, 26)]) (As := [.ref (bd 0), .int (nI k)]) (rest := [.int (κ 11 k)]) ⟨hx, hb, hml, hown, hts⟩ (h_strength l hfl D B bd μ H.size (nI k) n h2.1.2.1 h2.1.1) (vx_cwSW 2 hts gL_alike_L_strength rfl rfl rfl hdS_L_strength ⟨Nat.le_of_ble_eq_true rfl, Nat.le_of_ble_eq_true rfl⟩) (sPSz hS.1.swap.left) rfl rfl hl.1 rfl (lv_room (Nat.le_of_ble_eq_true rfl)) dL_alike_96 ⟨(by show _ ≤ 1200; omega), (by show _ ≤ 7200; omega)⟩) hS (((oV_t (ok_k h2.1.2.1 h2.1.1 hk)).trans (by rw [ik]; exact ((al_E h1 h2 hT k hk).2.1).symm) : oV ((0 ≤ (nI k) ∧ (nI k) ≤ (μ 0 0 - 1))) (μ 11 (iN (nI k))) (-2000000001) = κ 11 k)) (fun H locs hS => ?_)
        refine lv_icmp_ne (tgt := 221) hx hb dL_alike_99 (by decide) (fun c99 => absurd (rfl) c99) (fun c99 => ?_)
        refine lv_aload_n hx hb dL_alike_102 rfl (lv_at hl 0 rfl) ?_
        refine lv_iload hx hb dL_alike_103 (lv_at hl 5 rfl) ?_
        refine l_rd (vx_runSX (hh := [(0, 5, 6, 26)]) (As := [.ref (ad 0), .int (nI k)]) (rest := []) ⟨hx, hb, hml, hown, hts⟩ (h_angle l hfl D B ad κ H.size (nI k) n h1.1.2.1 h1.1.1) (vx_cwSW 2 hts gL_alike_L_angle rfl rfl rfl hdS_L_angle ⟨Nat.le_of_ble_eq_true rfl, Nat.le_of_ble_eq_true rfl⟩) (sPSz hS.1.left) rfl rfl hl.1 rfl (lv_room (Nat.le_of_ble_eq_true rfl)) dL_alike_105 ⟨(by show _ ≤ 1200; omega), (by show _ ≤ 7200; omega)⟩) hS (((oV_t (ok_k h1.1.2.1 h1.1.1 hk)).trans (by rw [ik]) : oV ((0 ≤ (nI k) ∧ (nI k) ≤ (κ 0 0 - 1))) (κ 12 (iN (nI k))) (-2000000001) = κ 12 k)) (fun H locs hS => ?_)
        refine lv_aload_n hx hb dL_alike_108 rfl (lv_at hl 1 rfl) ?_
        refine lv_iload hx hb dL_alike_109 (lv_at hl 5 rfl) ?_
        refine l_rd (vx_runSX (hh := [(0, 5, 6, 26)]) (As := [.ref (bd 0), .int (nI k)]) (rest := [.int (κ 12 k)]) ⟨hx, hb, hml, hown, hts⟩ (h_angle l hfl D B bd μ H.size (nI k) n h2.1.2.1 h2.1.1) (vx_cwSW 2 hts gL_alike_L_angle rfl rfl rfl hdS_L_angle ⟨Nat.le_of_ble_eq_true rfl, Nat.le_of_ble_eq_true rfl⟩) (sPSz hS.1.swap.left) rfl rfl hl.1 rfl (lv_room (Nat.le_of_ble_eq_true rfl)) dL_alike_111 ⟨(by show _ ≤ 1200; omega), (by show _ ≤ 7200; omega)⟩) hS (((oV_t (ok_k h2.1.2.1 h2.1.1 hk)).trans (by rw [ik]; exact ((al_E h1 h2 hT k hk).2.2.1).symm) : oV ((0 ≤ (nI k) ∧ (nI k) ≤ (μ 0 0 - 1))) (μ 12 (iN (nI k))) (-2000000001) = κ 12 k)) (fun H locs hS => ?_)
        refine lv_icmp_ne (tgt := 221) hx hb dL_alike_114 (by decide) (fun c114 => absurd (rfl) c114) (fun c114 => ?_)
        refine lv_aload_n hx hb dL_alike_117 rfl (lv_at hl 0 rfl) ?_
        refine lv_iload hx hb dL_alike_118 (lv_at hl 5 rfl) ?_
        refine l_rd (vx_runSX (hh := [(0, 5, 6, 26)]) (As := [.ref (ad 0), .int (nI k)]) (rest := []) ⟨hx, hb, hml, hown, hts⟩ (h_from l hfl D B ad κ H.size (nI k) n h1.1.2.1 h1.1.1) (vx_cwSW 2 hts gL_alike_L_from rfl rfl rfl hdS_L_from ⟨Nat.le_of_ble_eq_true rfl, Nat.le_of_ble_eq_true rfl⟩) (sPSz hS.1.left) rfl rfl hl.1 rfl (lv_room (Nat.le_of_ble_eq_true rfl)) dL_alike_120 ⟨(by show _ ≤ 1200; omega), (by show _ ≤ 7200; omega)⟩) hS (((oV_t (ok_k h1.1.2.1 h1.1.1 hk)).trans (by rw [ik]) : oV ((0 ≤ (nI k) ∧ (nI k) ≤ (κ 0 0 - 1))) (t360 ((κ 10 (iN (nI k))) + (κ 12 (iN (nI k))))) (-2000000001) = t360 (κ 10 k + κ 12 k))) (fun H locs hS => ?_)
        refine lv_iload_n hx hb dL_alike_123 rfl (lv_at hl 2 rfl) ?_
        refine lv_iadd hx hb dL_alike_124 ?_
        refine lv_sipush (v := 360) hx hb dL_alike_125 (by decide +kernel) ?_
        refine lv_irem hx hb dL_alike_128 (by decide +kernel) ?_
        refine lv_topi (fun zz ezz => ?_)
        obtain rfl : zz = t360 (μ 10 k + μ 12 k) := ezz.trans (al_from h1 h2 hT hG hmm hk)
        refine lv_aload_n hx hb dL_alike_129 rfl (lv_at hl 1 rfl) ?_
        refine lv_iload hx hb dL_alike_130 (lv_at hl 5 rfl) ?_
        refine l_rd (vx_runSX (hh := [(0, 5, 6, 26)]) (As := [.ref (bd 0), .int (nI k)]) (rest := [.int (t360 (μ 10 k + μ 12 k))]) ⟨hx, hb, hml, hown, hts⟩ (h_from l hfl D B bd μ H.size (nI k) n h2.1.2.1 h2.1.1) (vx_cwSW 2 hts gL_alike_L_from rfl rfl rfl hdS_L_from ⟨Nat.le_of_ble_eq_true rfl, Nat.le_of_ble_eq_true rfl⟩) (sPSz hS.1.swap.left) rfl rfl hl.1 rfl (lv_room (Nat.le_of_ble_eq_true rfl)) dL_alike_132 ⟨(by show _ ≤ 1200; omega), (by show _ ≤ 7200; omega)⟩) hS (((oV_t (ok_k h2.1.2.1 h2.1.1 hk)).trans (by rw [ik]) : oV ((0 ≤ (nI k) ∧ (nI k) ≤ (μ 0 0 - 1))) (t360 ((μ 10 (iN (nI k))) + (μ 12 (iN (nI k))))) (-2000000001) = t360 (μ 10 k + μ 12 k))) (fun H locs hS => ?_)
        refine lv_icmp_ne (tgt := 221) hx hb dL_alike_135 (by decide) (fun c135 => absurd (rfl) c135) (fun c135 => ?_)
        refine lv_aload_n hx hb dL_alike_138 rfl (lv_at hl 0 rfl) ?_
        refine lv_iload hx hb dL_alike_139 (lv_at hl 5 rfl) ?_
        refine l_rd (vx_runSX (hh := [(0, 5, 6, 26)]) (As := [.ref (ad 0), .int (nI k)]) (rest := []) ⟨hx, hb, hml, hown, hts⟩ (h_side l hfl D B ad κ H.size (nI k) n h1.1.2.1 h1.1.1) (vx_cwSW 2 hts gL_alike_L_side rfl rfl rfl hdS_L_side ⟨Nat.le_of_ble_eq_true rfl, Nat.le_of_ble_eq_true rfl⟩) (sPSz hS.1.left) rfl rfl hl.1 rfl (lv_room (Nat.le_of_ble_eq_true rfl)) dL_alike_141 ⟨(by show _ ≤ 1200; omega), (by show _ ≤ 7200; omega)⟩) hS (((oV_t (ok_k h1.1.2.1 h1.1.1 hk)).trans (by rw [ik]) : oV ((0 ≤ (nI k) ∧ (nI k) ≤ (κ 0 0 - 1))) (sdI (κ 12 (iN (nI k)))) (-2000000001) = sdI (κ 12 k))) (fun H locs hS => ?_)
        refine lv_aload_n hx hb dL_alike_144 rfl (lv_at hl 1 rfl) ?_
        refine lv_iload hx hb dL_alike_145 (lv_at hl 5 rfl) ?_
        refine l_rd (vx_runSX (hh := [(0, 5, 6, 26)]) (As := [.ref (bd 0), .int (nI k)]) (rest := [.int (sdI (κ 12 k))]) ⟨hx, hb, hml, hown, hts⟩ (h_side l hfl D B bd μ H.size (nI k) n h2.1.2.1 h2.1.1) (vx_cwSW 2 hts gL_alike_L_side rfl rfl rfl hdS_L_side ⟨Nat.le_of_ble_eq_true rfl, Nat.le_of_ble_eq_true rfl⟩) (sPSz hS.1.swap.left) rfl rfl hl.1 rfl (lv_room (Nat.le_of_ble_eq_true rfl)) dL_alike_147 ⟨(by show _ ≤ 1200; omega), (by show _ ≤ 7200; omega)⟩) hS (((oV_t (ok_k h2.1.2.1 h2.1.1 hk)).trans (by rw [ik]; exact (congrArg sdI (al_E h1 h2 hT k hk).2.2.1).symm) : oV ((0 ≤ (nI k) ∧ (nI k) ≤ (μ 0 0 - 1))) (sdI (μ 12 (iN (nI k)))) (-2000000001) = sdI (κ 12 k))) (fun H locs hS => ?_)
        refine lv_icmp_ne (tgt := 221) hx hb dL_alike_150 (by decide) (fun c150 => absurd (rfl) c150) (fun c150 => ?_)
        refine lv_aload_n hx hb dL_alike_153 rfl (lv_at hl 0 rfl) ?_
        refine lv_iload hx hb dL_alike_154 (lv_at hl 5 rfl) ?_
        refine l_rd (vx_runSX (hh := [(0, 5, 6, 26)]) (As := [.ref (ad 0), .int (nI k)]) (rest := []) ⟨hx, hb, hml, hown, hts⟩ (h_turn l hfl D B ad κ H.size (nI k) n h1.1.2.1 h1.1.1) (vx_cwSW 2 hts gL_alike_L_turn rfl rfl rfl hdS_L_turn ⟨Nat.le_of_ble_eq_true rfl, Nat.le_of_ble_eq_true rfl⟩) (sPSz hS.1.left) rfl rfl hl.1 rfl (lv_room (Nat.le_of_ble_eq_true rfl)) dL_alike_156 ⟨(by show _ ≤ 1200; omega), (by show _ ≤ 7200; omega)⟩) hS (((oV_t (ok_k h1.1.2.1 h1.1.1 hk)).trans (by rw [ik]) : oV ((0 ≤ (nI k) ∧ (nI k) ≤ (κ 0 0 - 1))) (kindF (κ 12) (iN (nI k))) (-2000000001) = kindF (κ 12) k)) (fun H locs hS => ?_)
        refine lv_aload_n hx hb dL_alike_159 rfl (lv_at hl 1 rfl) ?_
        refine lv_iload hx hb dL_alike_160 (lv_at hl 5 rfl) ?_
        refine l_rd (vx_runSX (hh := [(0, 5, 6, 26)]) (As := [.ref (bd 0), .int (nI k)]) (rest := [.int (kindF (κ 12) k)]) ⟨hx, hb, hml, hown, hts⟩ (h_turn l hfl D B bd μ H.size (nI k) n h2.1.2.1 h2.1.1) (vx_cwSW 2 hts gL_alike_L_turn rfl rfl rfl hdS_L_turn ⟨Nat.le_of_ble_eq_true rfl, Nat.le_of_ble_eq_true rfl⟩) (sPSz hS.1.swap.left) rfl rfl hl.1 rfl (lv_room (Nat.le_of_ble_eq_true rfl)) dL_alike_162 ⟨(by show _ ≤ 1200; omega), (by show _ ≤ 7200; omega)⟩) hS (((oV_t (ok_k h2.1.2.1 h2.1.1 hk)).trans (by rw [ik]; exact (al_kind h1 h2 hT hk).symm) : oV ((0 ≤ (nI k) ∧ (nI k) ≤ (μ 0 0 - 1))) (kindF (μ 12) (iN (nI k))) (-2000000001) = kindF (κ 12) k)) (fun H locs hS => ?_)
        refine lv_icmp_ne (tgt := 221) hx hb dL_alike_165 (by decide) (fun c165 => absurd (rfl) c165) (fun c165 => ?_)
        refine lv_aload_n hx hb dL_alike_168 rfl (lv_at hl 0 rfl) ?_
        refine lv_iload hx hb dL_alike_169 (lv_at hl 5 rfl) ?_
        refine l_rd (vx_runSX (hh := [(0, 5, 6, 26)]) (As := [.ref (ad 0), .int (nI k)]) (rest := []) ⟨hx, hb, hml, hown, hts⟩ (h_cost l hfl D B ad κ H.size (nI k) n h1.1.2.1 h1.1.1) (vx_cwSW 2 hts gL_alike_L_cost rfl rfl rfl hdS_L_cost ⟨Nat.le_of_ble_eq_true rfl, Nat.le_of_ble_eq_true rfl⟩) (sPSz hS.1.left) rfl rfl hl.1 rfl (lv_room (Nat.le_of_ble_eq_true rfl)) dL_alike_171 ⟨(by show _ ≤ 1200; omega), (by show _ ≤ 7200; omega)⟩) hS (((oV_t (ok_k h1.1.2.1 h1.1.1 hk)).trans (by rw [ik]) : oV ((0 ≤ (nI k) ∧ (nI k) ≤ (κ 0 0 - 1))) (lossF (κ 12) (κ 4) (κ 9) n (iN (nI k))) (-2000000001) = lossF (κ 12) (κ 4) (κ 9) n k)) (fun H locs hS => ?_)
        refine lv_aload_n hx hb dL_alike_174 rfl (lv_at hl 1 rfl) ?_
        refine lv_iload hx hb dL_alike_175 (lv_at hl 5 rfl) ?_
        refine l_rd (vx_runSX (hh := [(0, 5, 6, 26)]) (As := [.ref (bd 0), .int (nI k)]) (rest := [.int (lossF (κ 12) (κ 4) (κ 9) n k)]) ⟨hx, hb, hml, hown, hts⟩ (h_cost l hfl D B bd μ H.size (nI k) n h2.1.2.1 h2.1.1) (vx_cwSW 2 hts gL_alike_L_cost rfl rfl rfl hdS_L_cost ⟨Nat.le_of_ble_eq_true rfl, Nat.le_of_ble_eq_true rfl⟩) (sPSz hS.1.swap.left) rfl rfl hl.1 rfl (lv_room (Nat.le_of_ble_eq_true rfl)) dL_alike_177 ⟨(by show _ ≤ 1200; omega), (by show _ ≤ 7200; omega)⟩) hS (((oV_t (ok_k h2.1.2.1 h2.1.1 hk)).trans (by rw [ik]; exact (al_loss h1 h2 hT hk).symm) : oV ((0 ≤ (nI k) ∧ (nI k) ≤ (μ 0 0 - 1))) (lossF (μ 12) (μ 4) (μ 9) n (iN (nI k))) (-2000000001) = lossF (κ 12) (κ 4) (κ 9) n k)) (fun H locs hS => ?_)
        refine lv_icmp_ne (tgt := 221) hx hb dL_alike_180 (by decide) (fun c180 => absurd (rfl) c180) (fun c180 => ?_)
        have j217 : ∀ (H : Heap) (locs : List Loc) (ls : Array Slot), rS D B (rA 0 ad s.heap.size) (CW D ad κ ++ CW D bd μ) s H locs → lv_has ls 6 [(0, .ref (ad 0)), (1, .ref (bd 0)), (2, .int (nI mm)), (3, .int (nI x)), (4, .int 1), (5, .int (nI k))] → W p l e ({ frames := 10, cells := 1200, slots := 7200, locals := 168 } : Room) s m ([.ref (ad 0), .ref (bd 0), .int (nI mm), .int (nI x)] : List Value).toArray below meth c H locs (18 * k + 22) (108 * k + 132) (vx_MQ below (va_Qi (S := Unit) (fun rr _ => rr = 1) (fun _ _ => True) (rA 0 ad s.heap.size)) (fun _ _ _ => False) ([.ref (ad 0), .ref (bd 0), .int (nI mm), .int (nI x)] : List Value).toArray s 1200 7200 (rA 0 ad s.heap.size)) (F0 m 217 ls []) := by
          intro  H locs ls hS hl
          refine lv_iconst (v := 1) hx hb dL_alike_217 (by decide +kernel) ?_
          refine lv_goto (tgt := 222) hx hb dL_alike_218 (by decide) ?_
          refine lv_istore (lv' := [(4, .int 1), (0, .ref (ad 0)), (1, .ref (bd 0)), (2, .int (nI mm)), (3, .int (nI x)), (5, .int (nI k))]) hx hb dL_alike_222 hl (by decide) rfl (fun ls hl => ?_)
          refine lv_iinc (v := nI (k + 1)) (lv' := [(5, .int (nI (k + 1))), (4, .int 1), (0, .ref (ad 0)), (1, .ref (bd 0)), (2, .int (nI mm)), (3, .int (nI x))]) hx hb dL_alike_224 hl (k := 5) rfl (nI_add k 1) (by decide) rfl (fun ls hl => ?_)
          refine lv_goto (tgt := 58) hx hb dL_alike_227 (by decide) ?_
          refine W.widen (k := 18 * (k + 1) + 4) (n := 108 * (k + 1) + 24) (by omega) (by omega) ?_
          exact ih58 (k + 1) (by omega) (by omega) _ _ _ hS (lv_sub hl [2, 3, 4, 5, 1, 0] rfl)
        refine lv_iload_n hx hb dL_alike_183 rfl (lv_at hl 2 rfl) ?_
        refine lv_if_gt (tgt := 217) hx hb dL_alike_184 (by decide) (fun c184 => ?_) (fun c184 => ?_)
        ·
          refine W.widen (k := 18 * k + 22) (n := 108 * k + 132) (by omega) (by omega) ?_
          exact j217  _ _ _ hS (lv_sub hl [0, 1, 2, 3, 4, 5] rfl)
        ·
          have hm0 : mm = 0 := Nat.eq_zero_of_not_pos (fun q => c184 (by rw [← nI_0]; exact nI_lt q (by omega)))
          refine lv_aload_n hx hb dL_alike_187 rfl (lv_at hl 0 rfl) ?_
          refine lv_iload hx hb dL_alike_188 (lv_at hl 5 rfl) ?_
          refine l_rd (vx_runSX (hh := [(0, 5, 6, 26)]) (As := [.ref (ad 0), .int (nI k)]) (rest := []) ⟨hx, hb, hml, hown, hts⟩ (h_east l hfl D B ad κ H.size (nI k) n h1.1.2.1 h1.1.1 (rel_mi h1)) (vx_cwSW 2 hts gL_alike_L_east rfl rfl rfl hdS_L_east ⟨Nat.le_of_ble_eq_true rfl, Nat.le_of_ble_eq_true rfl⟩) (sPSz hS.1.left) rfl rfl hl.1 rfl (lv_room (Nat.le_of_ble_eq_true rfl)) dL_alike_190 ⟨(by show _ ≤ 1200; omega), (by show _ ≤ 7200; omega)⟩) hS (((oV_t (ok_k h1.1.2.1 h1.1.1 hk)).trans (by rw [ik]) : oV ((0 ≤ (nI k) ∧ (nI k) ≤ (κ 0 0 - 1))) ((fd6 (wayS (κ 4) (κ 9) (κ 10) (κ 2) (κ 3) 0 (iN (nI k)))).toInt32) (-2000000001) = (fd6 (wayS (κ 4) (κ 9) (κ 10) (κ 2) (κ 3) 0 k)).toInt32)) (fun H locs hS => ?_)
          refine lv_aload_n hx hb dL_alike_193 rfl (lv_at hl 1 rfl) ?_
          refine lv_iload hx hb dL_alike_194 (lv_at hl 5 rfl) ?_
          refine l_rd (vx_runSX (hh := [(0, 5, 6, 26)]) (As := [.ref (bd 0), .int (nI k)]) (rest := [.int ((fd6 (wayS (κ 4) (κ 9) (κ 10) (κ 2) (κ 3) 0 k)).toInt32)]) ⟨hx, hb, hml, hown, hts⟩ (h_east l hfl D B bd μ H.size (nI k) n h2.1.2.1 h2.1.1 (rel_mi h2)) (vx_cwSW 2 hts gL_alike_L_east rfl rfl rfl hdS_L_east ⟨Nat.le_of_ble_eq_true rfl, Nat.le_of_ble_eq_true rfl⟩) (sPSz hS.1.swap.left) rfl rfl hl.1 rfl (lv_room (Nat.le_of_ble_eq_true rfl)) dL_alike_196 ⟨(by show _ ≤ 1200; omega), (by show _ ≤ 7200; omega)⟩) hS (((oV_t (ok_k h2.1.2.1 h2.1.1 hk)).trans (by rw [ik]; exact (al_way h1 h2 hT hm0 0 hk).symm) : oV ((0 ≤ (nI k) ∧ (nI k) ≤ (μ 0 0 - 1))) ((fd6 (wayS (μ 4) (μ 9) (μ 10) (μ 2) (μ 3) 0 (iN (nI k)))).toInt32) (-2000000001) = (fd6 (wayS (κ 4) (κ 9) (κ 10) (κ 2) (κ 3) 0 k)).toInt32)) (fun H locs hS => ?_)
          refine lv_icmp_ne (tgt := 221) hx hb dL_alike_199 (by decide) (fun c199 => absurd (rfl) c199) (fun c199 => ?_)
          refine lv_aload_n hx hb dL_alike_202 rfl (lv_at hl 0 rfl) ?_
          refine lv_iload hx hb dL_alike_203 (lv_at hl 5 rfl) ?_
          refine l_rd (vx_runSX (hh := [(0, 5, 6, 26)]) (As := [.ref (ad 0), .int (nI k)]) (rest := []) ⟨hx, hb, hml, hown, hts⟩ (h_north l hfl D B ad κ H.size (nI k) n h1.1.2.1 h1.1.1 (rel_mi h1)) (vx_cwSW 2 hts gL_alike_L_north rfl rfl rfl hdS_L_north ⟨Nat.le_of_ble_eq_true rfl, Nat.le_of_ble_eq_true rfl⟩) (sPSz hS.1.left) rfl rfl hl.1 rfl (lv_room (Nat.le_of_ble_eq_true rfl)) dL_alike_205 ⟨(by show _ ≤ 1200; omega), (by show _ ≤ 7200; omega)⟩) hS (((oV_t (ok_k h1.1.2.1 h1.1.1 hk)).trans (by rw [ik]) : oV ((0 ≤ (nI k) ∧ (nI k) ≤ (κ 0 0 - 1))) ((fd6 (wayS (κ 4) (κ 9) (κ 10) (κ 2) (κ 3) 90 (iN (nI k)))).toInt32) (-2000000001) = (fd6 (wayS (κ 4) (κ 9) (κ 10) (κ 2) (κ 3) 90 k)).toInt32)) (fun H locs hS => ?_)
          refine lv_aload_n hx hb dL_alike_208 rfl (lv_at hl 1 rfl) ?_
          refine lv_iload hx hb dL_alike_209 (lv_at hl 5 rfl) ?_
          refine l_rd (vx_runSX (hh := [(0, 5, 6, 26)]) (As := [.ref (bd 0), .int (nI k)]) (rest := [.int ((fd6 (wayS (κ 4) (κ 9) (κ 10) (κ 2) (κ 3) 90 k)).toInt32)]) ⟨hx, hb, hml, hown, hts⟩ (h_north l hfl D B bd μ H.size (nI k) n h2.1.2.1 h2.1.1 (rel_mi h2)) (vx_cwSW 2 hts gL_alike_L_north rfl rfl rfl hdS_L_north ⟨Nat.le_of_ble_eq_true rfl, Nat.le_of_ble_eq_true rfl⟩) (sPSz hS.1.swap.left) rfl rfl hl.1 rfl (lv_room (Nat.le_of_ble_eq_true rfl)) dL_alike_211 ⟨(by show _ ≤ 1200; omega), (by show _ ≤ 7200; omega)⟩) hS (((oV_t (ok_k h2.1.2.1 h2.1.1 hk)).trans (by rw [ik]; exact (al_way h1 h2 hT hm0 90 hk).symm) : oV ((0 ≤ (nI k) ∧ (nI k) ≤ (μ 0 0 - 1))) ((fd6 (wayS (μ 4) (μ 9) (μ 10) (μ 2) (μ 3) 90 (iN (nI k)))).toInt32) (-2000000001) = (fd6 (wayS (κ 4) (κ 9) (κ 10) (κ 2) (κ 3) 90 k)).toInt32)) (fun H locs hS => ?_)
          refine lv_icmp_ne (tgt := 221) hx hb dL_alike_214 (by decide) (fun c214 => absurd (rfl) c214) (fun c214 => ?_)
          refine W.widen (k := 18 * k + 22) (n := 108 * k + 132) (by omega) (by omega) ?_
          exact j217  _ _ _ hS (lv_sub hl [0, 1, 2, 3, 4, 5] rfl)
  refine W.widen (k := 18 * 0 + 4) (n := 108 * 0 + 24) (by omega) (by omega) ?_
  exact loop58 (n + 1) 0 (by omega) (by omega) _ _ _ hS (lv_sub hl [2, 3, 4, 5, 1, 0] rfl)
end SLaw5
