/-! ===== the table, turns, courses ===== -/
section SLaw6
theorem row_in {a : Int32} {j : Nat} (ea : a = nI j) (hj : j < 360) : 0 ≤ rowI a ∧ rowI a ≤ 18 := by
  obtain ⟨r, hr, e⟩ := rowI_lt j hj
  rw [ea, e]
  exact in_k (m := 18) (by decide +kernel) (by omega) (by omega)
theorem col_in {w : Int32} (h : 0 ≤ w.toInt) : 0 ≤ colI w ∧ colI w ≤ 9 := by
  obtain ⟨r, hr, e⟩ := colI_lt h
  rw [e]
  exact in_k (m := 9) (by decide +kernel) (by omega) (by omega)
theorem best_f {κ τ : sQ} {n : Nat} {x y : Int32} (h : sRel κ τ n) (hx : 0 ≤ x ∧ x ≤ 18) (hy : 0 ≤ y ∧ y ≤ 9) : κ 1 (iN x * 10 + iN y) = fmx (κ 9) (κ 11) (κ 12) x y n := by
  obtain ⟨e1, l1⟩ := rng_ok 18 (by decide +kernel) (by omega) hx
  obtain ⟨e2, l2⟩ := rng_ok 9 (by decide +kernel) (by omega) hy
  rw [h.2.2.2.2.2 _ _ l1 l2, ← e1, ← e2]
theorem hs_r {a : Int32} {j : Nat} (ea : a = nI j) (hj : j < 360) : a - a / 180 * 180 = 0 ↔ (j = 0 ∨ j = 180) := by
  rw [ea, rem_k (d := 180) (by decide +kernel) (by omega) (by omega), nI_z (by omega)]
  omega
theorem hs_e {a : Int32} {j : Nat} (ea : a = nI j) (hj : j < 360) : (a = 0 ∨ a = 180) ↔ (j = 0 ∨ j = 180) := by
  rw [ea, nI_z (by omega), show (180 : Int32) = nI 180 from by decide +kernel, nI_eq (by omega) (by omega)]
theorem hs_0 {a : Int32} {j : Nat} (ea : a = nI j) (hj : j < 360) (h : a - a / 180 * 180 = 0) : 0 = sdI a := by
  rw [sdI, if_pos ((hs_e ea hj).mpr ((hs_r ea hj).mp h))]
theorem hs_1 {a : Int32} {j : Nat} (ea : a = nI j) (hj : j < 360) (h : ¬ a - a / 180 * 180 = 0) (h2 : ¬ 180 ≤ a) : 1 = sdI a := by
  rw [sdI, if_neg (fun q => h ((hs_r ea hj).mpr ((hs_e ea hj).mp q))), if_pos (nle h2)]
theorem hs_2 {a : Int32} {j : Nat} (ea : a = nI j) (hj : j < 360) (h : ¬ a - a / 180 * 180 = 0) (h2 : 180 ≤ a) : 2 = sdI a := by
  rw [sdI, if_neg (fun q => h ((hs_r ea hj).mpr ((hs_e ea hj).mp q))), if_neg]
  rw [i32_le] at h2
  rw [i32_lt]
  omega
theorem kd_1 {wa : Nat → Int32} {k : Nat} (h : (kindF wa k = 1 ∧ opn (wa (k - 1)) + opn (wa k) < 180) ∨ (kindF wa k = 2 ∧ ¬ opn (wa (k - 1)) + opn (wa k) < 180)) (c : ¬ 180 ≤ opn (wa k) + opn (wa (k - 1))) : 1 = bI (kindF wa k = 1) := by
  rw [Int32.add_comm] at c
  rcases h with ⟨h, -⟩ | ⟨-, h⟩
  · exact (bI_t h).symm
  · exact absurd (nle c) h
theorem kd_2 {wa : Nat → Int32} {k : Nat} (h : (kindF wa k = 1 ∧ opn (wa (k - 1)) + opn (wa k) < 180) ∨ (kindF wa k = 2 ∧ ¬ opn (wa (k - 1)) + opn (wa k) < 180)) (c : 180 ≤ opn (wa k) + opn (wa (k - 1))) : 0 = bI (kindF wa k = 1) := by
  rw [Int32.add_comm] at c
  rcases h with ⟨-, h⟩ | ⟨h, -⟩
  · rw [i32_lt] at h
    rw [i32_le] at c
    omega
  · exact (bI_f (by rw [h]; decide +kernel)).symm
section Hd
variable {hd most : Int32} {g : Nat → Int32}
theorem hd_no (h : (hd = -1 ∧ ∀ i, i < 360 → (g i).toInt ≤ 0) ∨ ∃ i, i < 360 ∧ hd = nI i ∧ 0 < (g i).toInt ∧ ∀ i', i' < 360 → (g i').toInt < (g i).toInt ∨ ((g i').toInt = (g i).toInt ∧ i ≤ i')) (c : ¬ 0 ≤ hd) : hd = -1 ∧ (0 : Int32) = 0 ∧ ∀ i, i < 360 → (g i).toInt ≤ 0 := by
  rcases h with ⟨e, h⟩ | ⟨i, hi, e, -⟩
  · exact ⟨e, rfl, h⟩
  · rw [e] at c
    exact absurd (nI_pos' (by omega)) c
theorem hd_ge (h : (hd = -1 ∧ most = 0 ∧ ∀ i, i < 360 → (g i).toInt ≤ 0) ∨ ∃ i, i < 360 ∧ hd = nI i ∧ most = g i ∧ 0 < (g i).toInt ∧ ∀ j, j < 360 → (g j).toInt < (g i).toInt ∨ ((g j).toInt = (g i).toInt ∧ i ≤ j)) : ¬ hd < -1 := by
  rcases h with ⟨e, -⟩ | ⟨i, hi, e, -⟩
  · rw [e]
    decide +kernel
  · rw [e, i32_lt, nI_toInt (by omega), show (-1 : Int32).toInt = -1 from by decide +kernel]
    omega
theorem hd_lt (h : (hd = -1 ∧ most = 0 ∧ ∀ i, i < 360 → (g i).toInt ≤ 0) ∨ ∃ i, i < 360 ∧ hd = nI i ∧ most = g i ∧ 0 < (g i).toInt ∧ ∀ j, j < 360 → (g j).toInt < (g i).toInt ∨ ((g j).toInt = (g i).toInt ∧ i ≤ j)) : ¬ 360 ≤ hd := by
  rcases h with ⟨e, -⟩ | ⟨i, hi, e, -⟩
  · rw [e]
    decide +kernel
  · rw [e]
    exact nI_ge (b := 360) hi (by omega)
theorem hd_pos (h : (hd = -1 ∧ most = 0 ∧ ∀ i, i < 360 → (g i).toInt ≤ 0) ∨ ∃ i, i < 360 ∧ hd = nI i ∧ most = g i ∧ 0 < (g i).toInt ∧ ∀ j, j < 360 → (g j).toInt < (g i).toInt ∨ ((g j).toInt = (g i).toInt ∧ i ≤ j)) (c : ¬ hd < 0) : ¬ most ≤ 0 := by
  rcases h with ⟨e, -⟩ | ⟨i, hi, -, e, h0, -⟩
  · rw [e] at c
    exact absurd (by decide +kernel) c
  · rw [e, i32_le, Int32.toInt_zero]
    omega
theorem hd_eq {i : Nat} (h : (hd = -1 ∧ most = 0 ∧ ∀ i, i < 360 → (g i).toInt ≤ 0) ∨ ∃ i, i < 360 ∧ hd = nI i ∧ most = g i ∧ 0 < (g i).toInt ∧ ∀ j, j < 360 → (g j).toInt < (g i).toInt ∨ ((g j).toInt = (g i).toInt ∧ i ≤ j)) (hi : i < 360) (c : ¬ g i < most) : g i = most := by
  rw [i32_lt] at c
  apply i32_ext
  rcases h with ⟨-, e, h⟩ | ⟨j, hj, -, e, h0, h⟩
  · have := h i hi
    rw [e, Int32.toInt_zero] at c ⊢
    omega
  · have := h i hi
    rw [e] at c ⊢
    omega
theorem hd_le {i : Nat} (h : (hd = -1 ∧ most = 0 ∧ ∀ i, i < 360 → (g i).toInt ≤ 0) ∨ ∃ i, i < 360 ∧ hd = nI i ∧ most = g i ∧ 0 < (g i).toInt ∧ ∀ j, j < 360 → (g j).toInt < (g i).toInt ∨ ((g j).toInt = (g i).toInt ∧ i ≤ j)) (hi : i < 360) (c : g i = most) (c2 : ¬ most = 0) : ¬ nI i < hd := by
  rcases h with ⟨-, e, h⟩ | ⟨j, hj, ej, e, h0, h⟩
  · exact absurd e c2
  · have := h i hi
    rw [← e, ← c] at this
    rw [ej, nI_ltI (by omega) (by omega)]
    omega
end Hd
theorem up_no {up : Int32} {g : Nat → Int32} {r : Nat} (h : (up = -1 ∧ ∀ r, r < 9 → (g r).toInt ≤ 0) ∨ ∃ v, v < 9 ∧ up = nI v ∧ ∀ r, r < 9 → (g r).toInt ≤ (g v).toInt) (c : ¬ 0 ≤ up) (hr : r < 9) : (g r).toInt ≤ (0 : Int32).toInt := by
  rcases h with ⟨-, h⟩ | ⟨v, hv, e, -⟩
  · rw [Int32.toInt_zero]
    exact h r hr
  · rw [e] at c
    exact absurd (nI_pos' (by omega)) c
theorem dn_no {dn : Int32} {g : Nat → Int32} {r : Nat} (h : (dn = -1 ∧ ∀ r, 9 ≤ r → r < 19 → 0 ≤ (g r).toInt) ∨ ∃ v, 9 ≤ v ∧ v < 19 ∧ dn = nI v ∧ ∀ r, 9 ≤ r → r < 19 → (g v).toInt ≤ (g r).toInt) (c : ¬ 0 ≤ dn) (h9 : 9 ≤ r) (hr : r < 19) : (0 : Int32).toInt ≤ (g r).toInt := by
  rcases h with ⟨-, h⟩ | ⟨v, -, hv, e, -⟩
  · rw [Int32.toInt_zero]
    exact h r h9 hr
  · rw [e] at c
    exact absurd (nI_pos' (by omega)) c
theorem fmx_nl {sp ws wa : Nat → Int32} {n k : Nat} (hk : k < n) : ¬ fmx sp ws wa (rowI (wa k)) (colI (ws k)) n < sp k := by
  have h := fmx_ge (sp := sp) (ws := ws) (wa := wa) n k hk rfl rfl
  rw [i32_lt]
  omega
set_option maxRecDepth 100000 in
set_option maxHeartbeats 4000000 in
theorem c_L_holds (l : Launch) (hfl : l.flags = flags0) (D : sD) (B : Nat) (ad : Nat → Nat) (κ : sQ) (sz : Nat) (x : Nat) (hx0 : x < 2 ^ 31) (τ : sQ) (n : Nat) (hR : sRel κ τ n) (hG : sG τ n) : vx_Met l yL_holds wsL_holds ({ frames := 11, cells := 1300, slots := 7800, locals := 192 } : Room) (sPz D B (CW D ad κ) sz ([.ref (ad 0), .int (nI x)] : List Value)) (va_Qi (S := Unit) (fun rr _ => rr = 1) (fun _ _ => True) (rA 0 ad sz)) (fun _ _ _ => False) 1300 7800 (rA 0 ad sz) := by
  refine s_headX (cc := cL_holds) (maxL := 13) (ret := (some .boolean)) (by decide +kernel) rfl (Nat.le_of_ble_eq_true rfl) ?_
  intro p e s m below meth c hx hb hr hlk hml hown hno hts hB0 ls hl
  obtain ⟨hsz, hJ⟩ := hB0
  subst hsz
  have hown : s.vm.findClass RL = some m.cls := hown
  have hl : lv_has ls 13 [(0, .ref (ad 0)), (1, .int (nI x))] := hl
  have hS := rS.start (n := 0) (ad := ad) hJ
  have hn60 := hR.1.1
  refine lv_iconst (v := 1) hx hb dL_holds_0 (by decide +kernel) ?_
  refine lv_istore_n (lv' := [(2, .int 1), (0, .ref (ad 0)), (1, .int (nI x))]) hx hb dL_holds_1 rfl hl (by decide) rfl (fun ls hl => ?_)
  refine lv_iconst (v := 0) hx hb dL_holds_2 (by decide +kernel) ?_
  refine lv_istore_n (lv' := [(3, .int 0), (2, .int 1), (0, .ref (ad 0)), (1, .int (nI x))]) hx hb dL_holds_3 rfl hl (by decide) rfl (fun ls hl => ?_)
  refine lv_iconst (v := 0) hx hb dL_holds_4 (by decide +kernel) ?_
  refine lv_istore (lv' := [(4, .int 0), (3, .int 0), (2, .int 1), (0, .ref (ad 0)), (1, .int (nI x))]) hx hb dL_holds_5 hl (by decide) rfl (fun ls hl => ?_)
  have loop7 : ∀ (fuel : Nat) (k : Nat) (hfu : n + 1 ≤ k + fuel) (hkn : k ≤ n) (H : Heap) (locs : List Loc) (ls : Array Slot), rS D B (rA 0 ad s.heap.size) (CW D ad κ) s H locs → lv_has ls 13 [(0, .ref (ad 0)), (1, .int (nI x)), (2, .int 1), (3, .int (lsF (lossF (κ 12) (κ 4) (κ 9) n) k)), (4, .int (nI k))] → W p l e ({ frames := 11, cells := 1300, slots := 7800, locals := 192 } : Room) s m ([.ref (ad 0), .int (nI x)] : List Value).toArray below meth c H locs (13 * k + 0) (78 * k + 0) (vx_MQ below (va_Qi (S := Unit) (fun rr _ => rr = 1) (fun _ _ => True) (rA 0 ad s.heap.size)) (fun _ _ _ => False) ([.ref (ad 0), .int (nI x)] : List Value).toArray s 1300 7800 (rA 0 ad s.heap.size)) (F0 m 7 ls []) := by
    intro fuel
    induction fuel with
    | zero => intro k hfu hkn H locs ls hS hl; exact absurd (hfu) (by omega)
    | succ fuel ih7 =>
      intro k hfu hkn H locs ls hS hl
      refine lv_iload hx hb dL_holds_7 (lv_at hl 4 rfl) ?_
      refine lv_aload_n hx hb dL_holds_9 rfl (lv_at hl 0 rfl) ?_
      refine s_ciV (As := []) (rest := [.int (nI k)]) ⟨hx, hb, hml, hown, hts⟩ (c_X3_entries l D B ad κ ) (cwV 0 hts gL_holds_X3_entries rfl rfl rfl hdV_X3_entries ⟨Nat.le_of_ble_eq_true rfl, Nat.le_of_ble_eq_true rfl⟩) (sPV hS.1 (ci := 3) (q0 := 0) rfl rfl) rfl hl.1 rfl (Nat.le_of_ble_eq_true rfl) dL_holds_10 ⟨(by show _ ≤ 1300; omega), (by show _ ≤ 7800; omega)⟩ ?_
      refine lv_topi (fun zz ezz => ?_)
      obtain rfl : zz = nI n := ezz.trans (hR.1.2.1)
      refine lv_icmp_ge (tgt := 278) hx hb dL_holds_13 (by decide) (fun c13 => ?_) (fun c13 => ?_)
      ·
        have hkn9 : k = n := by
          have h9 : ¬ k < n := fun q => nI_ge q (by omega) c13
          omega
        refine lv_iload_n hx hb dL_holds_278 rfl (lv_at hl 2 rfl) ?_
        refine lv_if_eq (tgt := 301) hx hb dL_holds_279 (by decide) (fun c279 => absurd c279 (by decide +kernel)) (fun c279 => ?_)
        refine lv_iload_n hx hb dL_holds_282 rfl (lv_at hl 3 rfl) ?_
        refine lv_aload_n hx hb dL_holds_283 rfl (lv_at hl 0 rfl) ?_
        refine lv_iconst (v := 1) hx hb dL_holds_284 (by decide +kernel) ?_
        refine l_rd (vx_runSX (hh := [(0, 5, 6, 13)]) (As := [.ref (ad 0), .int 1]) (rest := [.int (lsF (lossF (κ 12) (κ 4) (κ 9) n) k)]) ⟨hx, hb, hml, hown, hts⟩ (h_costs l hfl D B ad κ H.size 1 n hR.1.2.1 hR.1.1) (vx_cwSW 2 hts gL_holds_L_costs rfl rfl rfl hdS_L_costs ⟨Nat.le_of_ble_eq_true rfl, Nat.le_of_ble_eq_true rfl⟩) (sPSz hS.1) rfl rfl hl.1 rfl (lv_room (Nat.le_of_ble_eq_true rfl)) dL_holds_285 ⟨(by show _ ≤ 1300; omega), (by show _ ≤ 7800; omega)⟩) hS ((oV_t (Or.inl rfl) : oV (((1 : Int32) = 1 ∨ (1 : Int32) = 2)) (costF (κ 12) (κ 4) (κ 9) n (1 : Int32) n) (-2000000002) = costF (κ 12) (κ 4) (κ 9) n 1 n)) (fun H locs hS => ?_)
        refine lv_aload_n hx hb dL_holds_288 rfl (lv_at hl 0 rfl) ?_
        refine lv_iconst (v := 2) hx hb dL_holds_289 (by decide +kernel) ?_
        refine l_rd (vx_runSX (hh := [(0, 5, 6, 13)]) (As := [.ref (ad 0), .int 2]) (rest := [.int (costF (κ 12) (κ 4) (κ 9) n 1 n), .int (lsF (lossF (κ 12) (κ 4) (κ 9) n) k)]) ⟨hx, hb, hml, hown, hts⟩ (h_costs l hfl D B ad κ H.size 2 n hR.1.2.1 hR.1.1) (vx_cwSW 2 hts gL_holds_L_costs rfl rfl rfl hdS_L_costs ⟨Nat.le_of_ble_eq_true rfl, Nat.le_of_ble_eq_true rfl⟩) (sPSz hS.1) rfl rfl hl.1 rfl (lv_room (Nat.le_of_ble_eq_true rfl)) dL_holds_290 ⟨(by show _ ≤ 1300; omega), (by show _ ≤ 7800; omega)⟩) hS ((oV_t (Or.inr rfl) : oV (((2 : Int32) = 1 ∨ (2 : Int32) = 2)) (costF (κ 12) (κ 4) (κ 9) n (2 : Int32) n) (-2000000002) = costF (κ 12) (κ 4) (κ 9) n 2 n)) (fun H locs hS => ?_)
        refine lv_iadd hx hb dL_holds_293 ?_
        refine lv_icmp_ne (tgt := 301) hx hb dL_holds_294 (by decide) (fun c294 => absurd (by rw [hkn9]; exact ls_costs n) c294) (fun c294 => ?_)
        refine lv_iconst (v := 1) hx hb dL_holds_297 (by decide +kernel) ?_
        refine lv_goto (tgt := 302) hx hb dL_holds_298 (by decide) ?_
        refine lv_istore_n (lv' := [(2, .int 1), (0, .ref (ad 0)), (1, .int (nI x)), (3, .int (lsF (lossF (κ 12) (κ 4) (κ 9) n) k)), (4, .int (nI k))]) hx hb dL_holds_302 rfl hl (by decide) rfl (fun ls hl => ?_)
        refine lv_iload_n hx hb dL_holds_303 rfl (lv_at hl 2 rfl) ?_
        refine lv_bipush (v := 10) hx hb dL_holds_304 (by decide +kernel) ?_
        refine lv_irem hx hb dL_holds_306 (by decide +kernel) ?_
        refine lv_topi (fun zz ezz => ?_)
        obtain rfl : zz = nI (x % 10) := ezz.trans (rem_k (by decide +kernel) (by omega) (by omega))
        refine lv_istore (lv' := [(4, .int (nI (x % 10))), (2, .int 1), (0, .ref (ad 0)), (1, .int (nI x)), (3, .int (lsF (lossF (κ 12) (κ 4) (κ 9) n) k))]) hx hb dL_holds_307 hl (by decide) rfl (fun ls hl => ?_)
        refine lv_iload_n hx hb dL_holds_309 rfl (lv_at hl 3 rfl) ?_
        refine lv_bipush (v := 10) hx hb dL_holds_310 (by decide +kernel) ?_
        refine lv_idiv hx hb dL_holds_312 (by decide +kernel) ?_
        refine lv_topi (fun zz ezz => ?_)
        obtain rfl : zz = nI (x / 10) := ezz.trans (div_k (by decide +kernel) (by omega) (by omega))
        refine lv_sipush (v := 360) hx hb dL_holds_313 (by decide +kernel) ?_
        refine lv_irem hx hb dL_holds_316 (by decide +kernel) ?_
        refine lv_topi (fun zz ezz => ?_)
        obtain rfl : zz = nI ((x / 10) % 360) := ezz.trans (rem_k (by decide +kernel) (by omega) (by omega))
        refine lv_istore (lv' := [(5, .int (nI ((x / 10) % 360))), (4, .int (nI (x % 10))), (2, .int 1), (0, .ref (ad 0)), (1, .int (nI x)), (3, .int (lsF (lossF (κ 12) (κ 4) (κ 9) n) k))]) hx hb dL_holds_317 hl (by decide) rfl (fun ls hl => ?_)
        refine lv_iload_n hx hb dL_holds_319 rfl (lv_at hl 4 rfl) ?_
        refine lv_sipush (v := 3600) hx hb dL_holds_320 (by decide +kernel) ?_
        refine lv_idiv hx hb dL_holds_323 (by decide +kernel) ?_
        refine lv_topi (fun zz ezz => ?_)
        obtain rfl : zz = nI (x / 3600) := ezz.trans (div_k (by decide +kernel) (by omega) (by omega))
        refine lv_sipush (v := 360) hx hb dL_holds_324 (by decide +kernel) ?_
        refine lv_irem hx hb dL_holds_327 (by decide +kernel) ?_
        refine lv_topi (fun zz ezz => ?_)
        obtain rfl : zz = nI ((x / 3600) % 360) := ezz.trans (rem_k (by decide +kernel) (by omega) (by omega))
        refine lv_istore (lv' := [(6, .int (nI ((x / 3600) % 360))), (5, .int (nI ((x / 10) % 360))), (4, .int (nI (x % 10))), (2, .int 1), (0, .ref (ad 0)), (1, .int (nI x)), (3, .int (lsF (lossF (κ 12) (κ 4) (κ 9) n) k))]) hx hb dL_holds_328 hl (by decide) rfl (fun ls hl => ?_)
        refine lv_aload_n hx hb dL_holds_330 rfl (lv_at hl 4 rfl) ?_
        refine lv_iload hx hb dL_holds_331 (lv_at hl 2 rfl) ?_
        refine lv_iload hx hb dL_holds_333 (lv_at hl 1 rfl) ?_
        refine lv_iload hx hb dL_holds_335 (lv_at hl 0 rfl) ?_
        refine l_rd (vx_runSX (hh := [(0, 7, 8, 26), (0, 7, 13, 13)]) (As := [.ref (ad 0), .int (nI (x % 10)), .int (nI ((x / 10) % 360)), .int (nI ((x / 3600) % 360))]) (rest := []) ⟨hx, hb, hml, hown, hts⟩ (h_course l hfl D B ad κ H.size (nI (x % 10)) (nI ((x / 10) % 360)) (nI ((x / 3600) % 360))) (vx_cwSW 4 hts gL_holds_L_course rfl rfl rfl hdS_L_course ⟨Nat.le_of_ble_eq_true rfl, Nat.le_of_ble_eq_true rfl⟩) (sPSz hS.1) rfl rfl hl.1 rfl (lv_room (Nat.le_of_ble_eq_true rfl)) dL_holds_337 ⟨(by show _ ≤ 1300; omega), (by show _ ≤ 7800; omega)⟩) hS ((oL_t (in_k (m := 9) (by decide +kernel) (by omega) (by omega)) ⟨ac_in5 _, ac_in5 _⟩ : oL (0 ≤ (nI (x % 10)) ∧ (nI (x % 10)) ≤ 9) ((0 ≤ (nI ((x / 10) % 360)) ∧ (nI ((x / 10) % 360)) ≤ 359) ∧ (0 ≤ (nI ((x / 3600) % 360)) ∧ (nI ((x / 3600) % 360)) ≤ 359)) ((upB (fun h => κ 1 (rN (t360 ((nI ((x / 10) % 360)) + -(nI h))) * 10 + iN (nI (x % 10))) * cs (nI h - (nI ((x / 3600) % 360)))) 0 360).1) (-2000000001) (-2000000002) = (upB (gF κ (x / 10 % 360) (x / 3600 % 360) (x % 10)) 0 360).1)) (fun H locs hS => ?_)
        refine lv_topi (fun hd ehd => ?_)
        refine lv_istore (lv' := [(7, .int hd), (6, .int (nI ((x / 3600) % 360))), (5, .int (nI ((x / 10) % 360))), (4, .int (nI (x % 10))), (2, .int 1), (0, .ref (ad 0)), (1, .int (nI x)), (3, .int (lsF (lossF (κ 12) (κ 4) (κ 9) n) k))]) hx hb dL_holds_340 hl (by decide) rfl (fun ls hl => ?_)
        have hcf := course_f κ (x / 10 % 360) (x / 3600 % 360) (x % 10)
        have ehd : hd = (upB (gF κ (x / 10 % 360) (x / 3600 % 360) (x % 10)) 0 360).1 := ehd
        rw [← ehd] at hcf
        have j363 : ∀ (most : Int32) (hms : (hd = -1 ∧ most = 0 ∧ ∀ i, i < 360 → (gF κ (x / 10 % 360) (x / 3600 % 360) (x % 10) i).toInt ≤ 0) ∨ ∃ i, i < 360 ∧ hd = nI i ∧ most = gF κ (x / 10 % 360) (x / 3600 % 360) (x % 10) i ∧ 0 < (gF κ (x / 10 % 360) (x / 3600 % 360) (x % 10) i).toInt ∧ ∀ j, j < 360 → (gF κ (x / 10 % 360) (x / 3600 % 360) (x % 10) j).toInt < (gF κ (x / 10 % 360) (x / 3600 % 360) (x % 10) i).toInt ∨ ((gF κ (x / 10 % 360) (x / 3600 % 360) (x % 10) j).toInt = (gF κ (x / 10 % 360) (x / 3600 % 360) (x % 10) i).toInt ∧ i ≤ j)) (H : Heap) (locs : List Loc) (ls : Array Slot), rS D B (rA 0 ad s.heap.size) (CW D ad κ) s H locs → lv_has ls 13 [(7, .int hd), (6, .int (nI ((x / 3600) % 360))), (5, .int (nI ((x / 10) % 360))), (4, .int (nI (x % 10))), (2, .int 1), (0, .ref (ad 0)), (1, .int (nI x)), (3, .int (lsF (lossF (κ 12) (κ 4) (κ 9) n) k))] → W p l e ({ frames := 11, cells := 1300, slots := 7800, locals := 192 } : Room) s m ([.ref (ad 0), .int (nI x)] : List Value).toArray below meth c H locs (13 * k + 6) (78 * k + 36) (vx_MQ below (va_Qi (S := Unit) (fun rr _ => rr = 1) (fun _ _ => True) (rA 0 ad s.heap.size)) (fun _ _ _ => False) ([.ref (ad 0), .int (nI x)] : List Value).toArray s 1300 7800 (rA 0 ad s.heap.size)) (F0 m 363 ls [.int most]) := by
          intro most hms H locs ls hS hl
          refine lv_istore (lv' := [(8, .int most), (7, .int hd), (6, .int (nI ((x / 3600) % 360))), (5, .int (nI ((x / 10) % 360))), (4, .int (nI (x % 10))), (2, .int 1), (0, .ref (ad 0)), (1, .int (nI x)), (3, .int (lsF (lossF (κ 12) (κ 4) (κ 9) n) k))]) hx hb dL_holds_363 hl (by decide) rfl (fun ls hl => ?_)
          refine lv_iload_n hx hb dL_holds_365 rfl (lv_at hl 5 rfl) ?_
          refine lv_if_eq (tgt := 397) hx hb dL_holds_366 (by decide) (fun c366 => absurd c366 (by decide +kernel)) (fun c366 => ?_)
          refine lv_iload hx hb dL_holds_369 (lv_at hl 1 rfl) ?_
          refine lv_iconst (v := (-1)) hx hb dL_holds_371 (by decide +kernel) ?_
          refine lv_icmp_lt (tgt := 397) hx hb dL_holds_372 (by decide) (fun c372 => absurd c372 (hd_ge hms)) (fun c372 => ?_)
          refine lv_iload hx hb dL_holds_375 (lv_at hl 1 rfl) ?_
          refine lv_sipush (v := 360) hx hb dL_holds_377 (by decide +kernel) ?_
          refine lv_icmp_ge (tgt := 397) hx hb dL_holds_380 (by decide) (fun c380 => absurd c380 (hd_lt hms)) (fun c380 => ?_)
          have j393 : ∀ (H : Heap) (locs : List Loc) (ls : Array Slot), rS D B (rA 0 ad s.heap.size) (CW D ad κ) s H locs → lv_has ls 13 [(8, .int most), (7, .int hd), (6, .int (nI ((x / 3600) % 360))), (5, .int (nI ((x / 10) % 360))), (4, .int (nI (x % 10))), (2, .int 1), (0, .ref (ad 0)), (1, .int (nI x)), (3, .int (lsF (lossF (κ 12) (κ 4) (κ 9) n) k))] → W p l e ({ frames := 11, cells := 1300, slots := 7800, locals := 192 } : Room) s m ([.ref (ad 0), .int (nI x)] : List Value).toArray below meth c H locs (13 * k + 6) (78 * k + 36) (vx_MQ below (va_Qi (S := Unit) (fun rr _ => rr = 1) (fun _ _ => True) (rA 0 ad s.heap.size)) (fun _ _ _ => False) ([.ref (ad 0), .int (nI x)] : List Value).toArray s 1300 7800 (rA 0 ad s.heap.size)) (F0 m 393 ls []) := by
            intro  H locs ls hS hl
            refine lv_iconst (v := 1) hx hb dL_holds_393 (by decide +kernel) ?_
            refine lv_goto (tgt := 398) hx hb dL_holds_394 (by decide) ?_
            refine lv_istore_n (lv' := [(2, .int 1), (8, .int most), (7, .int hd), (6, .int (nI ((x / 3600) % 360))), (5, .int (nI ((x / 10) % 360))), (4, .int (nI (x % 10))), (0, .ref (ad 0)), (1, .int (nI x)), (3, .int (lsF (lossF (κ 12) (κ 4) (κ 9) n) k))]) hx hb dL_holds_398 rfl hl (by decide) rfl (fun ls hl => ?_)
            refine lv_iload_n hx hb dL_holds_399 rfl (lv_at hl 7 rfl) ?_
            refine lv_bipush (v := 20) hx hb dL_holds_400 (by decide +kernel) ?_
            refine lv_irem hx hb dL_holds_402 (by decide +kernel) ?_
            refine lv_topi (fun zz ezz => ?_)
            obtain rfl : zz = nI (x % 20) := ezz.trans (rem_k (by decide +kernel) (by omega) (by omega))
            refine lv_istore (lv' := [(9, .int (nI (x % 20))), (2, .int 1), (8, .int most), (7, .int hd), (6, .int (nI ((x / 3600) % 360))), (5, .int (nI ((x / 10) % 360))), (4, .int (nI (x % 10))), (0, .ref (ad 0)), (1, .int (nI x)), (3, .int (lsF (lossF (κ 12) (κ 4) (κ 9) n) k))]) hx hb dL_holds_403 hl (by decide) rfl (fun ls hl => ?_)
            have loop405 : ∀ (fuel : Nat) (i : Nat) (hfi : 400 ≤ i + 20 * fuel) (hi20 : i < 380) (H : Heap) (locs : List Loc) (ls : Array Slot), rS D B (rA 0 ad s.heap.size) (CW D ad κ) s H locs → lv_has ls 13 [(0, .ref (ad 0)), (1, .int (nI x)), (2, .int 1), (4, .int (nI (x % 10))), (5, .int (nI (x / 10 % 360))), (6, .int (nI (x / 3600 % 360))), (7, .int hd), (8, .int most), (9, .int (nI i))] → W p l e ({ frames := 11, cells := 1300, slots := 7800, locals := 192 } : Room) s m ([.ref (ad 0), .int (nI x)] : List Value).toArray below meth c H locs (13 * k + i + 6) (78 * k + 6 * i + 36) (vx_MQ below (va_Qi (S := Unit) (fun rr _ => rr = 1) (fun _ _ => True) (rA 0 ad s.heap.size)) (fun _ _ _ => False) ([.ref (ad 0), .int (nI x)] : List Value).toArray s 1300 7800 (rA 0 ad s.heap.size)) (F0 m 405 ls []) := by
              intro fuel
              induction fuel with
              | zero => intro i hfi hi20 H locs ls hS hl; exact absurd (hfi) (by omega)
              | succ fuel ih405 =>
                intro i hfi hi20 H locs ls hS hl
                refine lv_iload hx hb dL_holds_405 (lv_at hl 8 rfl) ?_
                refine lv_sipush (v := 360) hx hb dL_holds_407 (by decide +kernel) ?_
                refine lv_icmp_ge (tgt := 469) hx hb dL_holds_410 (by decide) (fun c410 => ?_) (fun c410 => ?_)
                ·
                  have hcu := up_f κ (c := x % 10) (by omega)
                  have hcd := down_f hR (c := x % 10) (by omega)
                  refine lv_aload_n hx hb dL_holds_469 rfl (lv_at hl 0 rfl) ?_
                  refine lv_iload hx hb dL_holds_470 (lv_at hl 3 rfl) ?_
                  refine l_rd (vx_runSX (hh := [(0, 5, 6, 26)]) (As := [.ref (ad 0), .int (nI (x % 10))]) (rest := []) ⟨hx, hb, hml, hown, hts⟩ (h_up l hfl D B ad κ H.size (nI (x % 10))) (vx_cwSW 2 hts gL_holds_L_up rfl rfl rfl hdS_L_up ⟨Nat.le_of_ble_eq_true rfl, Nat.le_of_ble_eq_true rfl⟩) (sPSz hS.1) rfl rfl hl.1 rfl (lv_room (Nat.le_of_ble_eq_true rfl)) dL_holds_472 ⟨(by show _ ≤ 1300; omega), (by show _ ≤ 7800; omega)⟩) hS ((oV_t (in_k (m := 9) (by decide +kernel) (by omega) (by omega)) : oV ((0 ≤ (nI (x % 10)) ∧ (nI (x % 10)) ≤ 9)) ((upB (fun r => 1 * κ 1 (r * 10 + iN (nI (x % 10))) * cs (midI (nI r))) 0 9).1) (-2000000001) = (upB (fun r => 1 * κ 1 (r * 10 + iN (nI (x % 10))) * cs (midI (nI r))) 0 9).1)) (fun H locs hS => ?_)
                  refine lv_topi (fun up eup => ?_)
                  refine lv_istore (lv' := [(9, .int up), (0, .ref (ad 0)), (1, .int (nI x)), (2, .int 1), (4, .int (nI (x % 10))), (5, .int (nI (x / 10 % 360))), (6, .int (nI (x / 3600 % 360))), (7, .int hd), (8, .int most)]) hx hb dL_holds_475 hl (by decide) rfl (fun ls hl => ?_)
                  refine lv_aload_n hx hb dL_holds_477 rfl (lv_at hl 1 rfl) ?_
                  refine lv_iload hx hb dL_holds_478 (lv_at hl 4 rfl) ?_
                  refine l_rd (vx_runSX (hh := [(0, 5, 6, 26)]) (As := [.ref (ad 0), .int (nI (x % 10))]) (rest := []) ⟨hx, hb, hml, hown, hts⟩ (h_down l hfl D B ad κ H.size (nI (x % 10))) (vx_cwSW 2 hts gL_holds_L_down rfl rfl rfl hdS_L_down ⟨Nat.le_of_ble_eq_true rfl, Nat.le_of_ble_eq_true rfl⟩) (sPSz hS.1) rfl rfl hl.1 rfl (lv_room (Nat.le_of_ble_eq_true rfl)) dL_holds_480 ⟨(by show _ ≤ 1300; omega), (by show _ ≤ 7800; omega)⟩) hS ((oV_t (in_k (m := 9) (by decide +kernel) (by omega) (by omega)) : oV ((0 ≤ (nI (x % 10)) ∧ (nI (x % 10)) ≤ 9)) ((upB (fun r => (-1) * κ 1 (r * 10 + iN (nI (x % 10))) * cs (midI (nI r))) 9 10).1) (-2000000001) = (upB (fun r => (-1) * κ 1 (r * 10 + iN (nI (x % 10))) * cs (midI (nI r))) 9 10).1)) (fun H locs hS => ?_)
                  refine lv_topi (fun dn edn => ?_)
                  refine lv_istore (lv' := [(10, .int dn), (9, .int up), (0, .ref (ad 0)), (1, .int (nI x)), (2, .int 1), (4, .int (nI (x % 10))), (5, .int (nI (x / 10 % 360))), (6, .int (nI (x / 3600 % 360))), (7, .int hd), (8, .int most)]) hx hb dL_holds_483 hl (by decide) rfl (fun ls hl => ?_)
                  rw [← eup] at hcu
                  rw [← edn] at hcd
                  refine lv_iconst (v := 0) hx hb dL_holds_485 (by decide +kernel) ?_
                  refine lv_istore (lv' := [(11, .int 0), (10, .int dn), (9, .int up), (0, .ref (ad 0)), (1, .int (nI x)), (2, .int 1), (4, .int (nI (x % 10))), (5, .int (nI (x / 10 % 360))), (6, .int (nI (x / 3600 % 360))), (7, .int hd), (8, .int most)]) hx hb dL_holds_486 hl (by decide) rfl (fun ls hl => ?_)
                  have loop488 : ∀ (fuel : Nat) (r : Nat) (hfr : 20 ≤ r + fuel) (hr20 : r ≤ 19) (H : Heap) (locs : List Loc) (ls : Array Slot), rS D B (rA 0 ad s.heap.size) (CW D ad κ) s H locs → lv_has ls 13 [(0, .ref (ad 0)), (2, .int 1), (4, .int (nI (x % 10))), (9, .int up), (10, .int dn), (11, .int (nI r))] → W p l e ({ frames := 11, cells := 1300, slots := 7800, locals := 192 } : Room) s m ([.ref (ad 0), .int (nI x)] : List Value).toArray below meth c H locs (13 * k + i + 2 * r + 8) (78 * k + 6 * i + 12 * r + 48) (vx_MQ below (va_Qi (S := Unit) (fun rr _ => rr = 1) (fun _ _ => True) (rA 0 ad s.heap.size)) (fun _ _ _ => False) ([.ref (ad 0), .int (nI x)] : List Value).toArray s 1300 7800 (rA 0 ad s.heap.size)) (F0 m 488 ls []) := by
                    intro fuel
                    induction fuel with
                    | zero => intro r hfr hr20 H locs ls hS hl; exact absurd (hfr) (by omega)
                    | succ fuel ih488 =>
                      intro r hfr hr20 H locs ls hS hl
                      refine lv_iload hx hb dL_holds_488 (lv_at hl 5 rfl) ?_
                      refine lv_bipush (v := 19) hx hb dL_holds_490 (by decide +kernel) ?_
                      refine lv_icmp_ge (tgt := 645) hx hb dL_holds_492 (by decide) (fun c492 => ?_) (fun c492 => ?_)
                      ·
                        refine lv_iload_n hx hb dL_holds_645 rfl (lv_at hl 1 rfl) ?_
                        exact l_rzret hx hb hr hlk dL_holds_646 (Or.inr rfl) (rfl) hS (by omega) (by omega)
                      ·
                        have hr19 : r < 19 := Nat.lt_of_not_le (fun q => c492 (nI_le q (by omega)))
                        refine lv_iload_n hx hb dL_holds_495 rfl (lv_at hl 1 rfl) ?_
                        refine lv_if_eq (tgt := 645) hx hb dL_holds_496 (by decide) (fun c496 => absurd c496 (by decide +kernel)) (fun c496 => ?_)
                        refine lv_aload_n hx hb dL_holds_499 rfl (lv_at hl 0 rfl) ?_
                        refine lv_iload hx hb dL_holds_500 (lv_at hl 5 rfl) ?_
                        refine lv_iload hx hb dL_holds_502 (lv_at hl 2 rfl) ?_
                        refine l_rd (vx_runSX (hh := [(0, 6, 7, 26)]) (As := [.ref (ad 0), .int (nI r), .int (nI (x % 10))]) (rest := []) ⟨hx, hb, hml, hown, hts⟩ (h_best l hfl D B ad κ H.size (nI r) (nI (x % 10))) (vx_cwSW 3 hts gL_holds_L_best rfl rfl rfl hdS_L_best ⟨Nat.le_of_ble_eq_true rfl, Nat.le_of_ble_eq_true rfl⟩) (sPSz hS.1) rfl rfl hl.1 rfl (lv_room (Nat.le_of_ble_eq_true rfl)) dL_holds_504 ⟨(by show _ ≤ 1300; omega), (by show _ ≤ 7800; omega)⟩) hS (((oV_t ⟨in_k (m := 18) (by decide +kernel) (by omega) (by omega), in_k (m := 9) (by decide +kernel) (by omega) (by omega)⟩).trans (by rw [iN_k (by omega), iN_k (by omega)]) : oV (((0 ≤ (nI r) ∧ (nI r) ≤ 18) ∧ (0 ≤ (nI (x % 10)) ∧ (nI (x % 10)) ≤ 9))) (κ 1 (iN (nI r) * 10 + iN (nI (x % 10)))) (-2000000001) = κ 1 (r * 10 + x % 10))) (fun H locs hS => ?_)
                        have j529 : ∀ (v : Int32) (hv : sn v = cs (midI (nI r))) (H : Heap) (locs : List Loc) (ls : Array Slot), rS D B (rA 0 ad s.heap.size) (CW D ad κ) s H locs → lv_has ls 13 [(0, .ref (ad 0)), (2, .int 1), (4, .int (nI (x % 10))), (9, .int up), (10, .int dn), (11, .int (nI r))] → W p l e ({ frames := 11, cells := 1300, slots := 7800, locals := 192 } : Room) s m ([.ref (ad 0), .int (nI x)] : List Value).toArray below meth c H locs (13 * k + i + 2 * r + 9) (78 * k + 6 * i + 12 * r + 54) (vx_MQ below (va_Qi (S := Unit) (fun rr _ => rr = 1) (fun _ _ => True) (rA 0 ad s.heap.size)) (fun _ _ _ => False) ([.ref (ad 0), .int (nI x)] : List Value).toArray s 1300 7800 (rA 0 ad s.heap.size)) (F0 m 529 ls [.int v, .ref (ad 0), .int (κ 1 (r * 10 + x % 10))]) := by
                          intro v hv H locs ls hS hl
                          refine s_ciV (As := [.int v]) (rest := [.int (κ 1 (r * 10 + x % 10))]) ⟨hx, hb, hml, hown, hts⟩ (c_X3_sine l D B ad κ v) (cwV 1 hts gL_holds_X3_sine rfl rfl rfl hdV_X3_sine ⟨Nat.le_of_ble_eq_true rfl, Nat.le_of_ble_eq_true rfl⟩) (sPV hS.1 (ci := 3) (q0 := 0) rfl rfl) rfl hl.1 rfl (Nat.le_of_ble_eq_true rfl) dL_holds_529 ⟨(by show _ ≤ 1300; omega), (by show _ ≤ 7800; omega)⟩ ?_
                          refine lv_topi (fun zz ezz => ?_)
                          obtain rfl : zz = cs (midI (nI r)) := ezz.trans (hv)
                          refine lv_imul hx hb dL_holds_532 ?_
                          refine lv_topi (fun zz ezz => ?_)
                          obtain rfl : zz = bF κ (x % 10) r := ezz.trans (rfl)
                          refine lv_istore (lv' := [(12, .int (bF κ (x % 10) r)), (0, .ref (ad 0)), (2, .int 1), (4, .int (nI (x % 10))), (9, .int up), (10, .int dn), (11, .int (nI r))]) hx hb dL_holds_533 hl (by decide) rfl (fun ls hl => ?_)
                          have j638 : ∀ (H : Heap) (locs : List Loc) (ls : Array Slot), rS D B (rA 0 ad s.heap.size) (CW D ad κ) s H locs → lv_has ls 13 [(12, .int (bF κ (x % 10) r)), (0, .ref (ad 0)), (2, .int 1), (4, .int (nI (x % 10))), (9, .int up), (10, .int dn), (11, .int (nI r))] → W p l e ({ frames := 11, cells := 1300, slots := 7800, locals := 192 } : Room) s m ([.ref (ad 0), .int (nI x)] : List Value).toArray below meth c H locs (13 * k + i + 2 * r + 10) (78 * k + 6 * i + 12 * r + 60) (vx_MQ below (va_Qi (S := Unit) (fun rr _ => rr = 1) (fun _ _ => True) (rA 0 ad s.heap.size)) (fun _ _ _ => False) ([.ref (ad 0), .int (nI x)] : List Value).toArray s 1300 7800 (rA 0 ad s.heap.size)) (F0 m 638 ls [.int 1]) := by
                            intro  H locs ls hS hl
                            refine lv_istore_n (lv' := [(2, .int 1), (12, .int (bF κ (x % 10) r)), (0, .ref (ad 0)), (4, .int (nI (x % 10))), (9, .int up), (10, .int dn), (11, .int (nI r))]) hx hb dL_holds_638 rfl hl (by decide) rfl (fun ls hl => ?_)
                            refine lv_iinc (v := nI (r + 1)) (lv' := [(11, .int (nI (r + 1))), (2, .int 1), (12, .int (bF κ (x % 10) r)), (0, .ref (ad 0)), (4, .int (nI (x % 10))), (9, .int up), (10, .int dn)]) hx hb dL_holds_639 hl (k := 6) rfl (nI_add r 1) (by decide) rfl (fun ls hl => ?_)
                            refine lv_goto (tgt := 488) hx hb dL_holds_642 (by decide) ?_
                            refine W.widen (k := 13 * k + i + 2 * (r + 1) + 8) (n := 78 * k + 6 * i + 12 * (r + 1) + 48) (by omega) (by omega) ?_
                            exact ih488 (r + 1) (by omega) (by omega) _ _ _ hS (lv_sub hl [3, 1, 4, 5, 6, 0] rfl)
                          refine lv_iload hx hb dL_holds_535 (lv_at hl 6 rfl) ?_
                          refine lv_bipush (v := 9) hx hb dL_holds_537 (by decide +kernel) ?_
                          refine lv_icmp_ge (tgt := 585) hx hb dL_holds_539 (by decide) (fun c539 => ?_) (fun c539 => ?_)
                          ·
                            have hr9 : 9 ≤ r := (nI_leI (a := 9) (by omega) (by omega)).mp c539
                            refine lv_iload hx hb dL_holds_585 (lv_at hl 0 rfl) ?_
                            have j630 : ∀ (v : Int32) (hv : v.toInt ≤ (bF κ (x % 10) r).toInt) (H : Heap) (locs : List Loc) (ls : Array Slot), rS D B (rA 0 ad s.heap.size) (CW D ad κ) s H locs → lv_has ls 13 [(12, .int (bF κ (x % 10) r)), (0, .ref (ad 0)), (2, .int 1), (4, .int (nI (x % 10))), (9, .int up), (10, .int dn), (11, .int (nI r))] → W p l e ({ frames := 11, cells := 1300, slots := 7800, locals := 192 } : Room) s m ([.ref (ad 0), .int (nI x)] : List Value).toArray below meth c H locs (13 * k + i + 2 * r + 10) (78 * k + 6 * i + 12 * r + 60) (vx_MQ below (va_Qi (S := Unit) (fun rr _ => rr = 1) (fun _ _ => True) (rA 0 ad s.heap.size)) (fun _ _ _ => False) ([.ref (ad 0), .int (nI x)] : List Value).toArray s 1300 7800 (rA 0 ad s.heap.size)) (F0 m 630 ls [.int v, .int (bF κ (x % 10) r)]) := by
                              intro v hv H locs ls hS hl
                              refine lv_icmp_lt (tgt := 637) hx hb dL_holds_630 (by decide) (fun c630 => absurd c630 (fun q => by rw [i32_lt] at q; omega)) (fun c630 => ?_)
                              refine lv_iconst (v := 1) hx hb dL_holds_633 (by decide +kernel) ?_
                              refine lv_goto (tgt := 638) hx hb dL_holds_634 (by decide) ?_
                              refine W.widen (k := 13 * k + i + 2 * r + 10) (n := 78 * k + 6 * i + 12 * r + 60) (by omega) (by omega) ?_
                              exact j638  _ _ _ hS (lv_sub hl [0, 1, 2, 3, 4, 5, 6] rfl)
                            refine lv_iload hx hb dL_holds_587 (lv_at hl 5 rfl) ?_
                            refine lv_if_ge (tgt := 596) hx hb dL_holds_589 (by decide) (fun c589 => ?_) (fun c589 => ?_)
                            ·
                              obtain ⟨u, hu9, hu, eu, hmx⟩ := (hcd.resolve_left (fun q => by rw [q.1] at c589; exact absurd c589 (by decide +kernel)))
                              subst eu
                              refine lv_aload_n hx hb dL_holds_596 rfl (lv_at hl 1 rfl) ?_
                              refine lv_iload hx hb dL_holds_597 (lv_at hl 5 rfl) ?_
                              refine lv_iload hx hb dL_holds_599 (lv_at hl 3 rfl) ?_
                              refine l_rd (vx_runSX (hh := [(0, 6, 7, 26)]) (As := [.ref (ad 0), .int (nI u), .int (nI (x % 10))]) (rest := [.int (bF κ (x % 10) r)]) ⟨hx, hb, hml, hown, hts⟩ (h_best l hfl D B ad κ H.size (nI u) (nI (x % 10))) (vx_cwSW 3 hts gL_holds_L_best rfl rfl rfl hdS_L_best ⟨Nat.le_of_ble_eq_true rfl, Nat.le_of_ble_eq_true rfl⟩) (sPSz hS.1) rfl rfl hl.1 rfl (lv_room (Nat.le_of_ble_eq_true rfl)) dL_holds_601 ⟨(by show _ ≤ 1300; omega), (by show _ ≤ 7800; omega)⟩) hS (((oV_t ⟨in_k (m := 18) (by decide +kernel) (by omega) (by omega), in_k (m := 9) (by decide +kernel) (by omega) (by omega)⟩).trans (by rw [iN_k (by omega), iN_k (by omega)]) : oV (((0 ≤ (nI u) ∧ (nI u) ≤ 18) ∧ (0 ≤ (nI (x % 10)) ∧ (nI (x % 10)) ≤ 9))) (κ 1 (iN (nI u) * 10 + iN (nI (x % 10)))) (-2000000001) = κ 1 (u * 10 + x % 10))) (fun H locs hS => ?_)
                              have j626 : ∀ (v : Int32) (hw : sn v = cs (midI (nI u))) (H : Heap) (locs : List Loc) (ls : Array Slot), rS D B (rA 0 ad s.heap.size) (CW D ad κ) s H locs → lv_has ls 13 [(12, .int (bF κ (x % 10) r)), (0, .ref (ad 0)), (2, .int 1), (4, .int (nI (x % 10))), (9, .int up), (10, .int (nI u)), (11, .int (nI r))] → W p l e ({ frames := 11, cells := 1300, slots := 7800, locals := 192 } : Room) s m ([.ref (ad 0), .int (nI x)] : List Value).toArray below meth c H locs (13 * k + i + 2 * r + 10) (78 * k + 6 * i + 12 * r + 60) (vx_MQ below (va_Qi (S := Unit) (fun rr _ => rr = 1) (fun _ _ => True) (rA 0 ad s.heap.size)) (fun _ _ _ => False) ([.ref (ad 0), .int (nI x)] : List Value).toArray s 1300 7800 (rA 0 ad s.heap.size)) (F0 m 626 ls [.int v, .ref (ad 0), .int (κ 1 (u * 10 + x % 10)), .int (bF κ (x % 10) r)]) := by
                                intro v hw H locs ls hS hl
                                refine s_ciV (As := [.int v]) (rest := [.int (κ 1 (u * 10 + x % 10)), .int (bF κ (x % 10) r)]) ⟨hx, hb, hml, hown, hts⟩ (c_X3_sine l D B ad κ v) (cwV 1 hts gL_holds_X3_sine rfl rfl rfl hdV_X3_sine ⟨Nat.le_of_ble_eq_true rfl, Nat.le_of_ble_eq_true rfl⟩) (sPV hS.1 (ci := 3) (q0 := 0) rfl rfl) rfl hl.1 rfl (Nat.le_of_ble_eq_true rfl) dL_holds_626 ⟨(by show _ ≤ 1300; omega), (by show _ ≤ 7800; omega)⟩ ?_
                                refine lv_topi (fun zz ezz => ?_)
                                obtain rfl : zz = cs (midI (nI u)) := ezz.trans (hw)
                                refine lv_imul hx hb dL_holds_629 ?_
                                refine lv_topi (fun zz ezz => ?_)
                                obtain rfl : zz = bF κ (x % 10) u := ezz.trans (rfl)
                                refine W.widen (k := 13 * k + i + 2 * r + 10) (n := 78 * k + 6 * i + 12 * r + 60) (by omega) (by omega) ?_
                                exact j630 (bF κ (x % 10) u) (hmx r hr9 hr19) _ _ _ hS (lv_sub hl [0, 1, 2, 3, 4, 5, 6] rfl)
                              refine lv_aload_n hx hb dL_holds_604 rfl (lv_at hl 1 rfl) ?_
                              refine lv_iload hx hb dL_holds_605 (lv_at hl 5 rfl) ?_
                              refine lv_bipush (v := 18) hx hb dL_holds_607 (by decide +kernel) ?_
                              refine lv_icmp_ne (tgt := 618) hx hb dL_holds_609 (by decide) (fun c609 => ?_) (fun c609 => ?_)
                              ·
                                have e18 : ¬ u = 18 := fun q => c609 (by rw [q]; rfl)
                                refine lv_bipush (v := 10) hx hb dL_holds_618 (by decide +kernel) ?_
                                refine lv_iload hx hb dL_holds_620 (lv_at hl 5 rfl) ?_
                                refine lv_imul hx hb dL_holds_622 ?_
                                refine lv_topi (fun zz ezz => ?_)
                                obtain rfl : zz = nI (10 * u) := ezz.trans (mul_l (by decide +kernel))
                                refine lv_bipush (v := 95) hx hb dL_holds_623 (by decide +kernel) ?_
                                refine lv_iadd hx hb dL_holds_625 ?_
                                refine lv_topi (fun zz ezz => ?_)
                                obtain rfl : zz = nI ((10 * u) + 95) := ezz.trans (add_k (by decide +kernel))
                                refine W.widen (k := 13 * k + i + 2 * r + 10) (n := 78 * k + 6 * i + 12 * r + 60) (by omega) (by omega) ?_
                                exact j626 (nI ((10 * u) + 95)) (by have e := sn_row u (by omega); rw [if_neg (by omega)] at e; exact e) _ _ _ hS (lv_sub hl [0, 1, 2, 3, 4, 5, 6] rfl)
                              ·
                                have e18 : u = 18 := (nI_eq (b := 18) (by omega) (by omega)).mp c609
                                refine lv_sipush (v := 270) hx hb dL_holds_612 (by decide +kernel) ?_
                                refine lv_goto (tgt := 626) hx hb dL_holds_615 (by decide) ?_
                                refine W.widen (k := 13 * k + i + 2 * r + 10) (n := 78 * k + 6 * i + 12 * r + 60) (by omega) (by omega) ?_
                                exact j626 270 (by have e := sn_row u (by omega); rw [if_pos (by omega)] at e; exact e) _ _ _ hS (lv_sub hl [0, 1, 2, 3, 4, 5, 6] rfl)
                            ·
                              refine lv_iconst (v := 0) hx hb dL_holds_592 (by decide +kernel) ?_
                              refine lv_goto (tgt := 630) hx hb dL_holds_593 (by decide) ?_
                              refine W.widen (k := 13 * k + i + 2 * r + 10) (n := 78 * k + 6 * i + 12 * r + 60) (by omega) (by omega) ?_
                              exact j630 0 (dn_no hcd c589 hr9 hr19) _ _ _ hS (lv_sub hl [0, 1, 2, 3, 4, 5, 6] rfl)
                          ·
                            have hr9 : r < 9 := Nat.lt_of_not_le (fun q => c539 (nI_le q (by omega)))
                            refine lv_iload hx hb dL_holds_542 (lv_at hl 0 rfl) ?_
                            have j574 : ∀ (v : Int32) (hv : (bF κ (x % 10) r).toInt ≤ v.toInt) (H : Heap) (locs : List Loc) (ls : Array Slot), rS D B (rA 0 ad s.heap.size) (CW D ad κ) s H locs → lv_has ls 13 [(12, .int (bF κ (x % 10) r)), (0, .ref (ad 0)), (2, .int 1), (4, .int (nI (x % 10))), (9, .int up), (10, .int dn), (11, .int (nI r))] → W p l e ({ frames := 11, cells := 1300, slots := 7800, locals := 192 } : Room) s m ([.ref (ad 0), .int (nI x)] : List Value).toArray below meth c H locs (13 * k + i + 2 * r + 10) (78 * k + 6 * i + 12 * r + 60) (vx_MQ below (va_Qi (S := Unit) (fun rr _ => rr = 1) (fun _ _ => True) (rA 0 ad s.heap.size)) (fun _ _ _ => False) ([.ref (ad 0), .int (nI x)] : List Value).toArray s 1300 7800 (rA 0 ad s.heap.size)) (F0 m 574 ls [.int v, .int (bF κ (x % 10) r)]) := by
                              intro v hv H locs ls hS hl
                              refine lv_icmp_gt (tgt := 581) hx hb dL_holds_574 (by decide) (fun c574 => absurd c574 (fun q => by rw [i32_lt] at q; omega)) (fun c574 => ?_)
                              refine lv_iconst (v := 1) hx hb dL_holds_577 (by decide +kernel) ?_
                              refine lv_goto (tgt := 638) hx hb dL_holds_578 (by decide) ?_
                              refine W.widen (k := 13 * k + i + 2 * r + 10) (n := 78 * k + 6 * i + 12 * r + 60) (by omega) (by omega) ?_
                              exact j638  _ _ _ hS (lv_sub hl [0, 1, 2, 3, 4, 5, 6] rfl)
                            refine lv_iload hx hb dL_holds_544 (lv_at hl 4 rfl) ?_
                            refine lv_if_ge (tgt := 553) hx hb dL_holds_546 (by decide) (fun c546 => ?_) (fun c546 => ?_)
                            ·
                              obtain ⟨u, hu, eu, hmx⟩ := (hcu.resolve_left (fun q => by rw [q.1] at c546; exact absurd c546 (by decide +kernel)))
                              subst eu
                              refine lv_aload_n hx hb dL_holds_553 rfl (lv_at hl 1 rfl) ?_
                              refine lv_iload hx hb dL_holds_554 (lv_at hl 4 rfl) ?_
                              refine lv_iload hx hb dL_holds_556 (lv_at hl 3 rfl) ?_
                              refine l_rd (vx_runSX (hh := [(0, 6, 7, 26)]) (As := [.ref (ad 0), .int (nI u), .int (nI (x % 10))]) (rest := [.int (bF κ (x % 10) r)]) ⟨hx, hb, hml, hown, hts⟩ (h_best l hfl D B ad κ H.size (nI u) (nI (x % 10))) (vx_cwSW 3 hts gL_holds_L_best rfl rfl rfl hdS_L_best ⟨Nat.le_of_ble_eq_true rfl, Nat.le_of_ble_eq_true rfl⟩) (sPSz hS.1) rfl rfl hl.1 rfl (lv_room (Nat.le_of_ble_eq_true rfl)) dL_holds_558 ⟨(by show _ ≤ 1300; omega), (by show _ ≤ 7800; omega)⟩) hS (((oV_t ⟨in_k (m := 18) (by decide +kernel) (by omega) (by omega), in_k (m := 9) (by decide +kernel) (by omega) (by omega)⟩).trans (by rw [iN_k (by omega), iN_k (by omega)]) : oV (((0 ≤ (nI u) ∧ (nI u) ≤ 18) ∧ (0 ≤ (nI (x % 10)) ∧ (nI (x % 10)) ≤ 9))) (κ 1 (iN (nI u) * 10 + iN (nI (x % 10)))) (-2000000001) = κ 1 (u * 10 + x % 10))) (fun H locs hS => ?_)
                              refine lv_aload_n hx hb dL_holds_561 rfl (lv_at hl 1 rfl) ?_
                              refine lv_bipush (v := 10) hx hb dL_holds_562 (by decide +kernel) ?_
                              refine lv_iload hx hb dL_holds_564 (lv_at hl 4 rfl) ?_
                              refine lv_imul hx hb dL_holds_566 ?_
                              refine lv_topi (fun zz ezz => ?_)
                              obtain rfl : zz = nI (10 * u) := ezz.trans (mul_l (by decide +kernel))
                              refine lv_bipush (v := 95) hx hb dL_holds_567 (by decide +kernel) ?_
                              refine lv_iadd hx hb dL_holds_569 ?_
                              refine lv_topi (fun zz ezz => ?_)
                              obtain rfl : zz = nI ((10 * u) + 95) := ezz.trans (add_k (by decide +kernel))
                              refine s_ciV (As := [.int (nI ((10 * u) + 95))]) (rest := [.int (κ 1 (u * 10 + x % 10)), .int (bF κ (x % 10) r)]) ⟨hx, hb, hml, hown, hts⟩ (c_X3_sine l D B ad κ (nI ((10 * u) + 95))) (cwV 1 hts gL_holds_X3_sine rfl rfl rfl hdV_X3_sine ⟨Nat.le_of_ble_eq_true rfl, Nat.le_of_ble_eq_true rfl⟩) (sPV hS.1 (ci := 3) (q0 := 0) rfl rfl) rfl hl.1 rfl (Nat.le_of_ble_eq_true rfl) dL_holds_570 ⟨(by show _ ≤ 1300; omega), (by show _ ≤ 7800; omega)⟩ ?_
                              refine lv_topi (fun zz ezz => ?_)
                              obtain rfl : zz = cs (midI (nI u)) := ezz.trans (by have e := sn_row u (by omega); rw [if_neg (by omega)] at e; exact e)
                              refine lv_imul hx hb dL_holds_573 ?_
                              refine lv_topi (fun zz ezz => ?_)
                              obtain rfl : zz = bF κ (x % 10) u := ezz.trans (rfl)
                              refine W.widen (k := 13 * k + i + 2 * r + 10) (n := 78 * k + 6 * i + 12 * r + 60) (by omega) (by omega) ?_
                              exact j574 (bF κ (x % 10) u) (hmx r hr9) _ _ _ hS (lv_sub hl [0, 1, 2, 3, 4, 5, 6] rfl)
                            ·
                              refine lv_iconst (v := 0) hx hb dL_holds_549 (by decide +kernel) ?_
                              refine lv_goto (tgt := 574) hx hb dL_holds_550 (by decide) ?_
                              refine W.widen (k := 13 * k + i + 2 * r + 10) (n := 78 * k + 6 * i + 12 * r + 60) (by omega) (by omega) ?_
                              exact j574 0 (up_no hcu c546 hr9) _ _ _ hS (lv_sub hl [0, 1, 2, 3, 4, 5, 6] rfl)
                        refine lv_aload_n hx hb dL_holds_507 rfl (lv_at hl 0 rfl) ?_
                        refine lv_iload hx hb dL_holds_508 (lv_at hl 5 rfl) ?_
                        refine lv_bipush (v := 18) hx hb dL_holds_510 (by decide +kernel) ?_
                        refine lv_icmp_ne (tgt := 521) hx hb dL_holds_512 (by decide) (fun c512 => ?_) (fun c512 => ?_)
                        ·
                          have e18 : ¬ r = 18 := fun q => c512 (by rw [q]; rfl)
                          refine lv_bipush (v := 10) hx hb dL_holds_521 (by decide +kernel) ?_
                          refine lv_iload hx hb dL_holds_523 (lv_at hl 5 rfl) ?_
                          refine lv_imul hx hb dL_holds_525 ?_
                          refine lv_topi (fun zz ezz => ?_)
                          obtain rfl : zz = nI (10 * r) := ezz.trans (mul_l (by decide +kernel))
                          refine lv_bipush (v := 95) hx hb dL_holds_526 (by decide +kernel) ?_
                          refine lv_iadd hx hb dL_holds_528 ?_
                          refine lv_topi (fun zz ezz => ?_)
                          obtain rfl : zz = nI ((10 * r) + 95) := ezz.trans (add_k (by decide +kernel))
                          refine W.widen (k := 13 * k + i + 2 * r + 9) (n := 78 * k + 6 * i + 12 * r + 54) (by omega) (by omega) ?_
                          exact j529 (nI ((10 * r) + 95)) (by have e := sn_row r (by omega); rw [if_neg (by omega)] at e; exact e) _ _ _ hS (lv_sub hl [0, 1, 2, 3, 4, 5] rfl)
                        ·
                          have e18 : r = 18 := (nI_eq (b := 18) (by omega) (by omega)).mp c512
                          refine lv_sipush (v := 270) hx hb dL_holds_515 (by decide +kernel) ?_
                          refine lv_goto (tgt := 529) hx hb dL_holds_518 (by decide) ?_
                          refine W.widen (k := 13 * k + i + 2 * r + 9) (n := 78 * k + 6 * i + 12 * r + 54) (by omega) (by omega) ?_
                          exact j529 270 (by have e := sn_row r (by omega); rw [if_pos (by omega)] at e; exact e) _ _ _ hS (lv_sub hl [0, 1, 2, 3, 4, 5] rfl)
                  refine W.widen (k := 13 * k + i + 2 * 0 + 8) (n := 78 * k + 6 * i + 12 * 0 + 48) (by omega) (by omega) ?_
                  exact loop488 20 0 (by omega) (by omega) _ _ _ hS (lv_sub hl [3, 5, 6, 2, 1, 0] rfl)
                ·
                  have hi : i < 360 := Nat.lt_of_not_le (fun q => c410 (nI_le q (by omega)))
                  refine lv_iload_n hx hb dL_holds_413 rfl (lv_at hl 2 rfl) ?_
                  refine lv_if_eq (tgt := 469) hx hb dL_holds_414 (by decide) (fun c414 => absurd c414 (by decide +kernel)) (fun c414 => ?_)
                  refine lv_aload_n hx hb dL_holds_417 rfl (lv_at hl 0 rfl) ?_
                  refine lv_iload hx hb dL_holds_418 (lv_at hl 3 rfl) ?_
                  refine lv_iload hx hb dL_holds_420 (lv_at hl 4 rfl) ?_
                  refine lv_iload hx hb dL_holds_422 (lv_at hl 5 rfl) ?_
                  refine lv_iload hx hb dL_holds_424 (lv_at hl 8 rfl) ?_
                  refine l_rd (vx_runS (As := [.ref (ad 0), .int (nI (x % 10)), .int (nI (x / 10 % 360)), .int (nI (x / 3600 % 360)), .int (nI i)]) (rest := []) ⟨hx, hb, hml, hown, hts⟩ (c_L_gain l hfl D B ad κ H.size (x % 10) (x / 10 % 360) (x / 3600 % 360) i (by omega) (by omega) (by omega) hi) (va_cwS 5 hts gL_holds_L_gain rfl rfl rfl hdS_L_gain ⟨Nat.le_of_ble_eq_true rfl, Nat.le_of_ble_eq_true rfl⟩) (sPSz hS.1) rfl rfl hl.1 rfl (lv_room (Nat.le_of_ble_eq_true rfl)) dL_holds_426 ⟨(by show _ ≤ 1300; omega), (by show _ ≤ 7800; omega)⟩) hS ((rfl : gF κ (x / 10 % 360) (x / 3600 % 360) (x % 10) i = gF κ (x / 10 % 360) (x / 3600 % 360) (x % 10) i)) (fun H locs hS => ?_)
                  refine lv_istore (lv' := [(10, .int (gF κ (x / 10 % 360) (x / 3600 % 360) (x % 10) i)), (0, .ref (ad 0)), (1, .int (nI x)), (2, .int 1), (4, .int (nI (x % 10))), (5, .int (nI (x / 10 % 360))), (6, .int (nI (x / 3600 % 360))), (7, .int hd), (8, .int most), (9, .int (nI i))]) hx hb dL_holds_429 hl (by decide) rfl (fun ls hl => ?_)
                  have j457 : ∀ (H : Heap) (locs : List Loc) (ls : Array Slot), rS D B (rA 0 ad s.heap.size) (CW D ad κ) s H locs → lv_has ls 13 [(10, .int (gF κ (x / 10 % 360) (x / 3600 % 360) (x % 10) i)), (0, .ref (ad 0)), (1, .int (nI x)), (2, .int 1), (4, .int (nI (x % 10))), (5, .int (nI (x / 10 % 360))), (6, .int (nI (x / 3600 % 360))), (7, .int hd), (8, .int most), (9, .int (nI i))] → W p l e ({ frames := 11, cells := 1300, slots := 7800, locals := 192 } : Room) s m ([.ref (ad 0), .int (nI x)] : List Value).toArray below meth c H locs (13 * k + i + 7) (78 * k + 6 * i + 42) (vx_MQ below (va_Qi (S := Unit) (fun rr _ => rr = 1) (fun _ _ => True) (rA 0 ad s.heap.size)) (fun _ _ _ => False) ([.ref (ad 0), .int (nI x)] : List Value).toArray s 1300 7800 (rA 0 ad s.heap.size)) (F0 m 457 ls []) := by
                    intro  H locs ls hS hl
                    refine lv_iconst (v := 1) hx hb dL_holds_457 (by decide +kernel) ?_
                    refine lv_goto (tgt := 462) hx hb dL_holds_458 (by decide) ?_
                    refine lv_istore_n (lv' := [(2, .int 1), (10, .int (gF κ (x / 10 % 360) (x / 3600 % 360) (x % 10) i)), (0, .ref (ad 0)), (1, .int (nI x)), (4, .int (nI (x % 10))), (5, .int (nI (x / 10 % 360))), (6, .int (nI (x / 3600 % 360))), (7, .int hd), (8, .int most), (9, .int (nI i))]) hx hb dL_holds_462 rfl hl (by decide) rfl (fun ls hl => ?_)
                    refine lv_iinc (v := nI (i + 20)) (lv' := [(9, .int (nI (i + 20))), (2, .int 1), (10, .int (gF κ (x / 10 % 360) (x / 3600 % 360) (x % 10) i)), (0, .ref (ad 0)), (1, .int (nI x)), (4, .int (nI (x % 10))), (5, .int (nI (x / 10 % 360))), (6, .int (nI (x / 3600 % 360))), (7, .int hd), (8, .int most)]) hx hb dL_holds_463 hl (k := 9) rfl (nI_add i 20) (by decide) rfl (fun ls hl => ?_)
                    refine lv_goto (tgt := 405) hx hb dL_holds_466 (by decide) ?_
                    refine W.widen (k := 13 * k + (i + 20) + 6) (n := 78 * k + 6 * (i + 20) + 36) (by omega) (by omega) ?_
                    exact ih405 (i + 20) (by omega) (by omega) _ _ _ hS (lv_sub hl [3, 4, 1, 5, 6, 7, 8, 9, 0] rfl)
                  refine lv_iload hx hb dL_holds_431 (lv_at hl 0 rfl) ?_
                  refine lv_iload hx hb dL_holds_433 (lv_at hl 8 rfl) ?_
                  refine lv_icmp_lt (tgt := 457) hx hb dL_holds_435 (by decide) (fun c435 => ?_) (fun c435 => ?_)
                  ·
                    refine W.widen (k := 13 * k + i + 7) (n := 78 * k + 6 * i + 42) (by omega) (by omega) ?_
                    exact j457  _ _ _ hS (lv_sub hl [0, 1, 2, 3, 4, 5, 6, 7, 8, 9] rfl)
                  ·
                    have hgm : gF κ (x / 10 % 360) (x / 3600 % 360) (x % 10) i = most := hd_eq hms hi c435
                    refine lv_iload hx hb dL_holds_438 (lv_at hl 0 rfl) ?_
                    refine lv_iload hx hb dL_holds_440 (lv_at hl 8 rfl) ?_
                    refine lv_icmp_ne (tgt := 461) hx hb dL_holds_442 (by decide) (fun c442 => absurd (hgm) c442) (fun c442 => ?_)
                    refine lv_iload hx hb dL_holds_445 (lv_at hl 8 rfl) ?_
                    refine lv_if_eq (tgt := 457) hx hb dL_holds_447 (by decide) (fun c447 => ?_) (fun c447 => ?_)
                    ·
                      refine W.widen (k := 13 * k + i + 7) (n := 78 * k + 6 * i + 42) (by omega) (by omega) ?_
                      exact j457  _ _ _ hS (lv_sub hl [0, 1, 2, 3, 4, 5, 6, 7, 8, 9] rfl)
                    ·
                      refine lv_iload hx hb dL_holds_450 (lv_at hl 9 rfl) ?_
                      refine lv_iload hx hb dL_holds_452 (lv_at hl 7 rfl) ?_
                      refine lv_icmp_lt (tgt := 461) hx hb dL_holds_454 (by decide) (fun c454 => absurd c454 (hd_le hms hi hgm c447)) (fun c454 => ?_)
                      refine W.widen (k := 13 * k + i + 7) (n := 78 * k + 6 * i + 42) (by omega) (by omega) ?_
                      exact j457  _ _ _ hS (lv_sub hl [0, 1, 2, 3, 4, 5, 6, 7, 8, 9] rfl)
            refine W.widen (k := 13 * k + x % 20 + 6) (n := 78 * k + 6 * (x % 20) + 36) (by omega) (by omega) ?_
            exact loop405 20 (x % 20) (by omega) (by omega) _ _ _ hS (lv_sub hl [7, 8, 1, 6, 5, 4, 3, 2, 0] rfl)
          refine lv_iload hx hb dL_holds_383 (lv_at hl 1 rfl) ?_
          refine lv_if_lt (tgt := 393) hx hb dL_holds_385 (by decide) (fun c385 => ?_) (fun c385 => ?_)
          ·
            refine W.widen (k := 13 * k + 6) (n := 78 * k + 36) (by omega) (by omega) ?_
            exact j393  _ _ _ hS (lv_sub hl [0, 1, 2, 3, 4, 5, 6, 7, 8] rfl)
          ·
            refine lv_iload hx hb dL_holds_388 (lv_at hl 0 rfl) ?_
            refine lv_if_le (tgt := 397) hx hb dL_holds_390 (by decide) (fun c390 => absurd c390 (hd_pos hms c385)) (fun c390 => ?_)
            refine W.widen (k := 13 * k + 6) (n := 78 * k + 36) (by omega) (by omega) ?_
            exact j393  _ _ _ hS (lv_sub hl [0, 1, 2, 3, 4, 5, 6, 7, 8] rfl)
        refine lv_iload hx hb dL_holds_342 (lv_at hl 0 rfl) ?_
        refine lv_if_ge (tgt := 351) hx hb dL_holds_344 (by decide) (fun c344 => ?_) (fun c344 => ?_)
        ·
          obtain ⟨i9, hi9, ei9, hp9, ha9⟩ := (hcf.resolve_left (fun q => by rw [q.1] at c344; exact absurd c344 (by decide +kernel)))
          subst ei9
          refine lv_aload_n hx hb dL_holds_351 rfl (lv_at hl 5 rfl) ?_
          refine lv_iload hx hb dL_holds_352 (lv_at hl 3 rfl) ?_
          refine lv_iload hx hb dL_holds_354 (lv_at hl 2 rfl) ?_
          refine lv_iload hx hb dL_holds_356 (lv_at hl 1 rfl) ?_
          refine lv_iload hx hb dL_holds_358 (lv_at hl 0 rfl) ?_
          refine l_rd (vx_runS (As := [.ref (ad 0), .int (nI (x % 10)), .int (nI ((x / 10) % 360)), .int (nI ((x / 3600) % 360)), .int (nI i9)]) (rest := []) ⟨hx, hb, hml, hown, hts⟩ (c_L_gain l hfl D B ad κ H.size (x % 10) (x / 10 % 360) (x / 3600 % 360) i9 (by omega) (by omega) (by omega) hi9) (va_cwS 5 hts gL_holds_L_gain rfl rfl rfl hdS_L_gain ⟨Nat.le_of_ble_eq_true rfl, Nat.le_of_ble_eq_true rfl⟩) (sPSz hS.1) rfl rfl hl.1 rfl (lv_room (Nat.le_of_ble_eq_true rfl)) dL_holds_360 ⟨(by show _ ≤ 1300; omega), (by show _ ≤ 7800; omega)⟩) hS ((rfl : gF κ (x / 10 % 360) (x / 3600 % 360) (x % 10) i9 = gF κ (x / 10 % 360) (x / 3600 % 360) (x % 10) i9)) (fun H locs hS => ?_)
          refine W.widen (k := 13 * k + 6) (n := 78 * k + 36) (by omega) (by omega) ?_
          exact j363 (gF κ (x / 10 % 360) (x / 3600 % 360) (x % 10) i9) (Or.inr ⟨i9, hi9, rfl, rfl, hp9, ha9⟩) _ _ _ hS (lv_sub hl [0, 1, 2, 3, 4, 5, 6, 7] rfl)
        ·
          refine lv_iconst (v := 0) hx hb dL_holds_347 (by decide +kernel) ?_
          refine lv_goto (tgt := 363) hx hb dL_holds_348 (by decide) ?_
          refine W.widen (k := 13 * k + 6) (n := 78 * k + 36) (by omega) (by omega) ?_
          exact j363 0 (Or.inl (hd_no hcf c344)) _ _ _ hS (lv_sub hl [0, 1, 2, 3, 4, 5, 6, 7] rfl)
      ·
        have hk : k < n := Nat.lt_of_not_le (fun q => c13 (nI_le q (by omega)))
        have ik : iN (nI k) = k := iN_k (by omega)
        refine lv_iload_n hx hb dL_holds_16 rfl (lv_at hl 2 rfl) ?_
        refine lv_if_eq (tgt := 278) hx hb dL_holds_17 (by decide) (fun c17 => absurd c17 (by decide +kernel)) (fun c17 => ?_)
        obtain ⟨ja, hja, ea⟩ := ang_k hR hk
        have hrr := row_in ea hja
        have hcr := col_in (ws_nn hR hk)
        refine lv_aload_n hx hb dL_holds_20 rfl (lv_at hl 0 rfl) ?_
        refine lv_iload hx hb dL_holds_21 (lv_at hl 4 rfl) ?_
        refine l_rd (vx_runSX (hh := [(0, 5, 6, 26)]) (As := [.ref (ad 0), .int (nI k)]) (rest := []) ⟨hx, hb, hml, hown, hts⟩ (h_strength l hfl D B ad κ H.size (nI k) n hR.1.2.1 hR.1.1) (vx_cwSW 2 hts gL_holds_L_strength rfl rfl rfl hdS_L_strength ⟨Nat.le_of_ble_eq_true rfl, Nat.le_of_ble_eq_true rfl⟩) (sPSz hS.1) rfl rfl hl.1 rfl (lv_room (Nat.le_of_ble_eq_true rfl)) dL_holds_23 ⟨(by show _ ≤ 1300; omega), (by show _ ≤ 7800; omega)⟩) hS (((oV_t (ok_k hR.1.2.1 hR.1.1 hk)).trans (by rw [ik]) : oV ((0 ≤ (nI k) ∧ (nI k) ≤ (κ 0 0 - 1))) (κ 11 (iN (nI k))) (-2000000001) = κ 11 k)) (fun H locs hS => ?_)
        refine lv_istore (lv' := [(5, .int (κ 11 k)), (0, .ref (ad 0)), (1, .int (nI x)), (2, .int 1), (3, .int (lsF (lossF (κ 12) (κ 4) (κ 9) n) k)), (4, .int (nI k))]) hx hb dL_holds_26 hl (by decide) rfl (fun ls hl => ?_)
        refine lv_aload_n hx hb dL_holds_28 rfl (lv_at hl 1 rfl) ?_
        refine lv_iload hx hb dL_holds_29 (lv_at hl 5 rfl) ?_
        refine l_rd (vx_runSX (hh := [(0, 5, 6, 26)]) (As := [.ref (ad 0), .int (nI k)]) (rest := []) ⟨hx, hb, hml, hown, hts⟩ (h_angle l hfl D B ad κ H.size (nI k) n hR.1.2.1 hR.1.1) (vx_cwSW 2 hts gL_holds_L_angle rfl rfl rfl hdS_L_angle ⟨Nat.le_of_ble_eq_true rfl, Nat.le_of_ble_eq_true rfl⟩) (sPSz hS.1) rfl rfl hl.1 rfl (lv_room (Nat.le_of_ble_eq_true rfl)) dL_holds_31 ⟨(by show _ ≤ 1300; omega), (by show _ ≤ 7800; omega)⟩) hS (((oV_t (ok_k hR.1.2.1 hR.1.1 hk)).trans (by rw [ik]) : oV ((0 ≤ (nI k) ∧ (nI k) ≤ (κ 0 0 - 1))) (κ 12 (iN (nI k))) (-2000000001) = κ 12 k)) (fun H locs hS => ?_)
        refine lv_istore (lv' := [(6, .int (κ 12 k)), (5, .int (κ 11 k)), (0, .ref (ad 0)), (1, .int (nI x)), (2, .int 1), (3, .int (lsF (lossF (κ 12) (κ 4) (κ 9) n) k)), (4, .int (nI k))]) hx hb dL_holds_34 hl (by decide) rfl (fun ls hl => ?_)
        have j56 : ∀ (v : Int32) (hv : v = colI (κ 11 k)) (H : Heap) (locs : List Loc) (ls : Array Slot), rS D B (rA 0 ad s.heap.size) (CW D ad κ) s H locs → lv_has ls 13 [(6, .int (κ 12 k)), (5, .int (κ 11 k)), (0, .ref (ad 0)), (1, .int (nI x)), (2, .int 1), (3, .int (lsF (lossF (κ 12) (κ 4) (κ 9) n) k)), (4, .int (nI k))] → W p l e ({ frames := 11, cells := 1300, slots := 7800, locals := 192 } : Room) s m ([.ref (ad 0), .int (nI x)] : List Value).toArray below meth c H locs (13 * k + 2) (78 * k + 12) (vx_MQ below (va_Qi (S := Unit) (fun rr _ => rr = 1) (fun _ _ => True) (rA 0 ad s.heap.size)) (fun _ _ _ => False) ([.ref (ad 0), .int (nI x)] : List Value).toArray s 1300 7800 (rA 0 ad s.heap.size)) (F0 m 56 ls [.int v]) := by
          intro v hv H locs ls hS hl
          subst hv
          refine lv_istore (lv' := [(7, .int (colI (κ 11 k))), (6, .int (κ 12 k)), (5, .int (κ 11 k)), (0, .ref (ad 0)), (1, .int (nI x)), (2, .int 1), (3, .int (lsF (lossF (κ 12) (κ 4) (κ 9) n) k)), (4, .int (nI k))]) hx hb dL_holds_56 hl (by decide) rfl (fun ls hl => ?_)
          refine lv_iload hx hb dL_holds_58 (lv_at hl 1 rfl) ?_
          refine s_ciS (As := [.int (κ 12 k)]) (rest := []) ⟨hx, hb, hml, hown, hts⟩ (c_L_open l (κ 12 k)) (va_cwS 1 hts gL_holds_L_open rfl rfl rfl hdS_L_open ⟨Nat.le_of_ble_eq_true rfl, Nat.le_of_ble_eq_true rfl⟩) sPS0 rfl hl.1 rfl (Nat.le_of_ble_eq_true rfl) dL_holds_60 ⟨(by show _ ≤ 1300; omega), (by show _ ≤ 7800; omega)⟩ ?_
          refine lv_topi (fun zz ezz => ?_)
          obtain rfl : zz = opn (κ 12 k) := ezz.trans (by rw [ea]; exact opI_n ja hja)
          refine lv_bipush (v := 10) hx hb dL_holds_63 (by decide +kernel) ?_
          refine lv_idiv hx hb dL_holds_65 (by decide +kernel) ?_
          refine lv_topi (fun zz ezz => ?_)
          obtain rfl : zz = rowI (κ 12 k) := ezz.trans (rfl)
          refine lv_istore (lv' := [(8, .int (rowI (κ 12 k))), (7, .int (colI (κ 11 k))), (6, .int (κ 12 k)), (5, .int (κ 11 k)), (0, .ref (ad 0)), (1, .int (nI x)), (2, .int 1), (3, .int (lsF (lossF (κ 12) (κ 4) (κ 9) n) k)), (4, .int (nI k))]) hx hb dL_holds_66 hl (by decide) rfl (fun ls hl => ?_)
          refine lv_aload_n hx hb dL_holds_68 rfl (lv_at hl 4 rfl) ?_
          refine lv_iload hx hb dL_holds_69 (lv_at hl 8 rfl) ?_
          refine l_rd (vx_runSX (hh := [(0, 5, 6, 26)]) (As := [.ref (ad 0), .int (nI k)]) (rest := []) ⟨hx, hb, hml, hown, hts⟩ (h_turn l hfl D B ad κ H.size (nI k) n hR.1.2.1 hR.1.1) (vx_cwSW 2 hts gL_holds_L_turn rfl rfl rfl hdS_L_turn ⟨Nat.le_of_ble_eq_true rfl, Nat.le_of_ble_eq_true rfl⟩) (sPSz hS.1) rfl rfl hl.1 rfl (lv_room (Nat.le_of_ble_eq_true rfl)) dL_holds_71 ⟨(by show _ ≤ 1300; omega), (by show _ ≤ 7800; omega)⟩) hS (((oV_t (ok_k hR.1.2.1 hR.1.1 hk)).trans (by rw [ik]) : oV ((0 ≤ (nI k) ∧ (nI k) ≤ (κ 0 0 - 1))) (kindF (κ 12) (iN (nI k))) (-2000000001) = kindF (κ 12) k)) (fun H locs hS => ?_)
          refine lv_istore (lv' := [(9, .int (kindF (κ 12) k)), (8, .int (rowI (κ 12 k))), (7, .int (colI (κ 11 k))), (6, .int (κ 12 k)), (5, .int (κ 11 k)), (0, .ref (ad 0)), (1, .int (nI x)), (2, .int 1), (3, .int (lsF (lossF (κ 12) (κ 4) (κ 9) n) k)), (4, .int (nI k))]) hx hb dL_holds_74 hl (by decide) rfl (fun ls hl => ?_)
          refine lv_iload_n hx hb dL_holds_76 rfl (lv_at hl 8 rfl) ?_
          refine lv_aload_n hx hb dL_holds_77 rfl (lv_at hl 5 rfl) ?_
          refine lv_iload hx hb dL_holds_78 (lv_at hl 9 rfl) ?_
          refine l_rd (vx_runSX (hh := [(0, 5, 6, 26)]) (As := [.ref (ad 0), .int (nI k)]) (rest := [.int (lsF (lossF (κ 12) (κ 4) (κ 9) n) k)]) ⟨hx, hb, hml, hown, hts⟩ (h_cost l hfl D B ad κ H.size (nI k) n hR.1.2.1 hR.1.1) (vx_cwSW 2 hts gL_holds_L_cost rfl rfl rfl hdS_L_cost ⟨Nat.le_of_ble_eq_true rfl, Nat.le_of_ble_eq_true rfl⟩) (sPSz hS.1) rfl rfl hl.1 rfl (lv_room (Nat.le_of_ble_eq_true rfl)) dL_holds_80 ⟨(by show _ ≤ 1300; omega), (by show _ ≤ 7800; omega)⟩) hS (((oV_t (ok_k hR.1.2.1 hR.1.1 hk)).trans (by rw [ik]) : oV ((0 ≤ (nI k) ∧ (nI k) ≤ (κ 0 0 - 1))) (lossF (κ 12) (κ 4) (κ 9) n (iN (nI k))) (-2000000001) = lossF (κ 12) (κ 4) (κ 9) n k)) (fun H locs hS => ?_)
          refine lv_iadd hx hb dL_holds_83 ?_
          refine lv_topi (fun zz ezz => ?_)
          obtain rfl : zz = lsF (lossF (κ 12) (κ 4) (κ 9) n) (k + 1) := ezz.trans (rfl)
          refine lv_istore_n (lv' := [(3, .int (lsF (lossF (κ 12) (κ 4) (κ 9) n) (k + 1))), (9, .int (kindF (κ 12) k)), (8, .int (rowI (κ 12 k))), (7, .int (colI (κ 11 k))), (6, .int (κ 12 k)), (5, .int (κ 11 k)), (0, .ref (ad 0)), (1, .int (nI x)), (2, .int 1), (4, .int (nI k))]) hx hb dL_holds_84 rfl hl (by decide) rfl (fun ls hl => ?_)
          refine lv_iload hx hb dL_holds_85 (lv_at hl 4 rfl) ?_
          refine lv_if_lt (tgt := 270) hx hb dL_holds_87 (by decide) (fun c87 => absurd c87 (by rw [ea]; exact nI_pos (by omega))) (fun c87 => ?_)
          refine lv_iload hx hb dL_holds_90 (lv_at hl 4 rfl) ?_
          refine lv_sipush (v := 360) hx hb dL_holds_92 (by decide +kernel) ?_
          refine lv_icmp_ge (tgt := 270) hx hb dL_holds_95 (by decide) (fun c95 => absurd c95 (by rw [ea]; exact nI_ge (b := 360) hja (by omega))) (fun c95 => ?_)
          refine lv_iload hx hb dL_holds_98 (lv_at hl 5 rfl) ?_
          refine lv_if_lt (tgt := 270) hx hb dL_holds_100 (by decide) (fun c100 => absurd c100 (by have := ws_nn hR hk; rw [i32_lt, Int32.toInt_zero]; omega)) (fun c100 => ?_)
          refine lv_aload_n hx hb dL_holds_103 rfl (lv_at hl 6 rfl) ?_
          refine lv_iload hx hb dL_holds_104 (lv_at hl 9 rfl) ?_
          refine l_rd (vx_runSX (hh := [(0, 5, 6, 26)]) (As := [.ref (ad 0), .int (nI k)]) (rest := []) ⟨hx, hb, hml, hown, hts⟩ (h_side l hfl D B ad κ H.size (nI k) n hR.1.2.1 hR.1.1) (vx_cwSW 2 hts gL_holds_L_side rfl rfl rfl hdS_L_side ⟨Nat.le_of_ble_eq_true rfl, Nat.le_of_ble_eq_true rfl⟩) (sPSz hS.1) rfl rfl hl.1 rfl (lv_room (Nat.le_of_ble_eq_true rfl)) dL_holds_106 ⟨(by show _ ≤ 1300; omega), (by show _ ≤ 7800; omega)⟩) hS (((oV_t (ok_k hR.1.2.1 hR.1.1 hk)).trans (by rw [ik]) : oV ((0 ≤ (nI k) ∧ (nI k) ≤ (κ 0 0 - 1))) (sdI (κ 12 (iN (nI k)))) (-2000000001) = sdI (κ 12 k))) (fun H locs hS => ?_)
          have j135 : ∀ (v : Int32) (hv : v = sdI (κ 12 k)) (H : Heap) (locs : List Loc) (ls : Array Slot), rS D B (rA 0 ad s.heap.size) (CW D ad κ) s H locs → lv_has ls 13 [(3, .int (lsF (lossF (κ 12) (κ 4) (κ 9) n) (k + 1))), (9, .int (kindF (κ 12) k)), (8, .int (rowI (κ 12 k))), (7, .int (colI (κ 11 k))), (6, .int (κ 12 k)), (5, .int (κ 11 k)), (0, .ref (ad 0)), (1, .int (nI x)), (2, .int 1), (4, .int (nI k))] → W p l e ({ frames := 11, cells := 1300, slots := 7800, locals := 192 } : Room) s m ([.ref (ad 0), .int (nI x)] : List Value).toArray below meth c H locs (13 * k + 5) (78 * k + 30) (vx_MQ below (va_Qi (S := Unit) (fun rr _ => rr = 1) (fun _ _ => True) (rA 0 ad s.heap.size)) (fun _ _ _ => False) ([.ref (ad 0), .int (nI x)] : List Value).toArray s 1300 7800 (rA 0 ad s.heap.size)) (F0 m 135 ls [.int v, .int (sdI (κ 12 k))]) := by
            intro v hv H locs ls hS hl
            subst hv
            refine lv_icmp_ne (tgt := 270) hx hb dL_holds_135 (by decide) (fun c135 => absurd (rfl) c135) (fun c135 => ?_)
            refine lv_aload_n hx hb dL_holds_138 rfl (lv_at hl 6 rfl) ?_
            refine lv_iload hx hb dL_holds_139 (lv_at hl 2 rfl) ?_
            refine lv_iload hx hb dL_holds_141 (lv_at hl 3 rfl) ?_
            refine l_rd (vx_runSX (hh := [(0, 6, 7, 26)]) (As := [.ref (ad 0), .int (rowI (κ 12 k)), .int (colI (κ 11 k))]) (rest := []) ⟨hx, hb, hml, hown, hts⟩ (h_best l hfl D B ad κ H.size (rowI (κ 12 k)) (colI (κ 11 k))) (vx_cwSW 3 hts gL_holds_L_best rfl rfl rfl hdS_L_best ⟨Nat.le_of_ble_eq_true rfl, Nat.le_of_ble_eq_true rfl⟩) (sPSz hS.1) rfl rfl hl.1 rfl (lv_room (Nat.le_of_ble_eq_true rfl)) dL_holds_143 ⟨(by show _ ≤ 1300; omega), (by show _ ≤ 7800; omega)⟩) hS (((oV_t ⟨hrr, hcr⟩).trans (best_f hR hrr hcr) : oV (((0 ≤ (rowI (κ 12 k)) ∧ (rowI (κ 12 k)) ≤ 18) ∧ (0 ≤ (colI (κ 11 k)) ∧ (colI (κ 11 k)) ≤ 9))) (κ 1 (iN (rowI (κ 12 k)) * 10 + iN (colI (κ 11 k)))) (-2000000001) = fmx (κ 9) (κ 11) (κ 12) (rowI (κ 12 k)) (colI (κ 11 k)) n)) (fun H locs hS => ?_)
            refine lv_aload_n hx hb dL_holds_146 rfl (lv_at hl 6 rfl) ?_
            refine lv_iload hx hb dL_holds_147 (lv_at hl 9 rfl) ?_
            refine l_rd (vx_runSX (hh := [(0, 5, 6, 26)]) (As := [.ref (ad 0), .int (nI k)]) (rest := [.int (fmx (κ 9) (κ 11) (κ 12) (rowI (κ 12 k)) (colI (κ 11 k)) n)]) ⟨hx, hb, hml, hown, hts⟩ (h_speed l hfl D B ad κ H.size (nI k) n hR.1.2.1 hR.1.1) (vx_cwSW 2 hts gL_holds_L_speed rfl rfl rfl hdS_L_speed ⟨Nat.le_of_ble_eq_true rfl, Nat.le_of_ble_eq_true rfl⟩) (sPSz hS.1) rfl rfl hl.1 rfl (lv_room (Nat.le_of_ble_eq_true rfl)) dL_holds_149 ⟨(by show _ ≤ 1300; omega), (by show _ ≤ 7800; omega)⟩) hS (((oV_t (ok_k hR.1.2.1 hR.1.1 hk)).trans (by rw [ik]) : oV ((0 ≤ (nI k) ∧ (nI k) ≤ (κ 0 0 - 1))) (κ 9 (iN (nI k))) (-2000000001) = κ 9 k)) (fun H locs hS => ?_)
            refine lv_icmp_lt (tgt := 270) hx hb dL_holds_152 (by decide) (fun c152 => absurd c152 (fmx_nl hk)) (fun c152 => ?_)
            refine lv_aload_n hx hb dL_holds_155 rfl (lv_at hl 6 rfl) ?_
            refine lv_iload hx hb dL_holds_156 (lv_at hl 2 rfl) ?_
            refine lv_iload hx hb dL_holds_158 (lv_at hl 3 rfl) ?_
            refine l_rd (vx_runSX (hh := [(0, 6, 7, 26)]) (As := [.ref (ad 0), .int (rowI (κ 12 k)), .int (colI (κ 11 k))]) (rest := []) ⟨hx, hb, hml, hown, hts⟩ (h_byLog l hfl D B ad κ H.size (rowI (κ 12 k)) (colI (κ 11 k)) n hR.1.2.1 hR.1.1) (vx_cwSW 3 hts gL_holds_L_byLog rfl rfl rfl hdS_L_byLog ⟨Nat.le_of_ble_eq_true rfl, Nat.le_of_ble_eq_true rfl⟩) (sPSz hS.1) rfl rfl hl.1 rfl (lv_room (Nat.le_of_ble_eq_true rfl)) dL_holds_160 ⟨(by show _ ≤ 1300; omega), (by show _ ≤ 7800; omega)⟩) hS ((oV_t ⟨hrr, hcr⟩ : oV (((0 ≤ (rowI (κ 12 k)) ∧ (rowI (κ 12 k)) ≤ 18) ∧ (0 ≤ (colI (κ 11 k)) ∧ (colI (κ 11 k)) ≤ 9))) (fmx (κ 9) (κ 11) (κ 12) (rowI (κ 12 k)) (colI (κ 11 k)) n) (-2000000001) = fmx (κ 9) (κ 11) (κ 12) (rowI (κ 12 k)) (colI (κ 11 k)) n)) (fun H locs hS => ?_)
            refine lv_aload_n hx hb dL_holds_163 rfl (lv_at hl 6 rfl) ?_
            refine lv_iload hx hb dL_holds_164 (lv_at hl 2 rfl) ?_
            refine lv_iload hx hb dL_holds_166 (lv_at hl 3 rfl) ?_
            refine l_rd (vx_runSX (hh := [(0, 6, 7, 26)]) (As := [.ref (ad 0), .int (rowI (κ 12 k)), .int (colI (κ 11 k))]) (rest := [.int (fmx (κ 9) (κ 11) (κ 12) (rowI (κ 12 k)) (colI (κ 11 k)) n)]) ⟨hx, hb, hml, hown, hts⟩ (h_best l hfl D B ad κ H.size (rowI (κ 12 k)) (colI (κ 11 k))) (vx_cwSW 3 hts gL_holds_L_best rfl rfl rfl hdS_L_best ⟨Nat.le_of_ble_eq_true rfl, Nat.le_of_ble_eq_true rfl⟩) (sPSz hS.1) rfl rfl hl.1 rfl (lv_room (Nat.le_of_ble_eq_true rfl)) dL_holds_168 ⟨(by show _ ≤ 1300; omega), (by show _ ≤ 7800; omega)⟩) hS (((oV_t ⟨hrr, hcr⟩).trans (best_f hR hrr hcr) : oV (((0 ≤ (rowI (κ 12 k)) ∧ (rowI (κ 12 k)) ≤ 18) ∧ (0 ≤ (colI (κ 11 k)) ∧ (colI (κ 11 k)) ≤ 9))) (κ 1 (iN (rowI (κ 12 k)) * 10 + iN (colI (κ 11 k)))) (-2000000001) = fmx (κ 9) (κ 11) (κ 12) (rowI (κ 12 k)) (colI (κ 11 k)) n)) (fun H locs hS => ?_)
            refine lv_icmp_ne (tgt := 270) hx hb dL_holds_171 (by decide) (fun c171 => absurd (rfl) c171) (fun c171 => ?_)
            refine lv_aload_n hx hb dL_holds_174 rfl (lv_at hl 6 rfl) ?_
            refine lv_iload hx hb dL_holds_175 (lv_at hl 9 rfl) ?_
            refine l_rd (vx_runSX (hh := [(0, 5, 6, 26)]) (As := [.ref (ad 0), .int (nI k)]) (rest := []) ⟨hx, hb, hml, hown, hts⟩ (h_cost l hfl D B ad κ H.size (nI k) n hR.1.2.1 hR.1.1) (vx_cwSW 2 hts gL_holds_L_cost rfl rfl rfl hdS_L_cost ⟨Nat.le_of_ble_eq_true rfl, Nat.le_of_ble_eq_true rfl⟩) (sPSz hS.1) rfl rfl hl.1 rfl (lv_room (Nat.le_of_ble_eq_true rfl)) dL_holds_177 ⟨(by show _ ≤ 1300; omega), (by show _ ≤ 7800; omega)⟩) hS (((oV_t (ok_k hR.1.2.1 hR.1.1 hk)).trans (by rw [ik]) : oV ((0 ≤ (nI k) ∧ (nI k) ≤ (κ 0 0 - 1))) (lossF (κ 12) (κ 4) (κ 9) n (iN (nI k))) (-2000000001) = lossF (κ 12) (κ 4) (κ 9) n k)) (fun H locs hS => ?_)
            refine lv_if_lt (tgt := 270) hx hb dL_holds_180 (by decide) (fun c180 => absurd c180 (by have := loss_0l hR hG hk; rw [i32_lt, Int32.toInt_zero]; omega)) (fun c180 => ?_)
            have j266 : ∀ (H : Heap) (locs : List Loc) (ls : Array Slot), rS D B (rA 0 ad s.heap.size) (CW D ad κ) s H locs → lv_has ls 13 [(3, .int (lsF (lossF (κ 12) (κ 4) (κ 9) n) (k + 1))), (9, .int (kindF (κ 12) k)), (8, .int (rowI (κ 12 k))), (7, .int (colI (κ 11 k))), (6, .int (κ 12 k)), (5, .int (κ 11 k)), (0, .ref (ad 0)), (1, .int (nI x)), (2, .int 1), (4, .int (nI k))] → W p l e ({ frames := 11, cells := 1300, slots := 7800, locals := 192 } : Room) s m ([.ref (ad 0), .int (nI x)] : List Value).toArray below meth c H locs (13 * k + 13) (78 * k + 78) (vx_MQ below (va_Qi (S := Unit) (fun rr _ => rr = 1) (fun _ _ => True) (rA 0 ad s.heap.size)) (fun _ _ _ => False) ([.ref (ad 0), .int (nI x)] : List Value).toArray s 1300 7800 (rA 0 ad s.heap.size)) (F0 m 266 ls []) := by
              intro  H locs ls hS hl
              refine lv_iconst (v := 1) hx hb dL_holds_266 (by decide +kernel) ?_
              refine lv_goto (tgt := 271) hx hb dL_holds_267 (by decide) ?_
              refine lv_istore_n (lv' := [(2, .int 1), (3, .int (lsF (lossF (κ 12) (κ 4) (κ 9) n) (k + 1))), (9, .int (kindF (κ 12) k)), (8, .int (rowI (κ 12 k))), (7, .int (colI (κ 11 k))), (6, .int (κ 12 k)), (5, .int (κ 11 k)), (0, .ref (ad 0)), (1, .int (nI x)), (4, .int (nI k))]) hx hb dL_holds_271 rfl hl (by decide) rfl (fun ls hl => ?_)
              refine lv_iinc (v := nI (k + 1)) (lv' := [(4, .int (nI (k + 1))), (2, .int 1), (3, .int (lsF (lossF (κ 12) (κ 4) (κ 9) n) (k + 1))), (9, .int (kindF (κ 12) k)), (8, .int (rowI (κ 12 k))), (7, .int (colI (κ 11 k))), (6, .int (κ 12 k)), (5, .int (κ 11 k)), (0, .ref (ad 0)), (1, .int (nI x))]) hx hb dL_holds_272 hl (k := 9) rfl (nI_add k 1) (by decide) rfl (fun ls hl => ?_)
              refine lv_goto (tgt := 7) hx hb dL_holds_275 (by decide) ?_
              refine W.widen (k := 13 * (k + 1) + 0) (n := 78 * (k + 1) + 0) (by omega) (by omega) ?_
              exact ih7 (k + 1) (by omega) (by omega) _ _ _ hS (lv_sub hl [8, 9, 1, 2, 0] rfl)
            refine lv_iload hx hb dL_holds_183 (lv_at hl 1 rfl) ?_
            refine lv_if_ne (tgt := 200) hx hb dL_holds_185 (by decide) (fun c185 => ?_) (fun c185 => ?_)
            ·
              have hkc := (kind_c (κ 12) k).resolve_left c185
              have hk1 : k - 1 < n := by omega
              have ik1 : iN (nI (k - 1)) = k - 1 := iN_k (by omega)
              obtain ⟨jb, hjb, eb⟩ := ang_k hR hk1
              refine lv_iload hx hb dL_holds_200 (lv_at hl 9 rfl) ?_
              refine lv_if_le (tgt := 270) hx hb dL_holds_202 (by decide) (fun c202 => absurd c202 (nI_nle hkc.1 (by omega))) (fun c202 => ?_)
              refine lv_aload_n hx hb dL_holds_205 rfl (lv_at hl 6 rfl) ?_
              refine lv_iload hx hb dL_holds_206 (lv_at hl 9 rfl) ?_
              refine l_rd (vx_runSX (hh := [(0, 5, 6, 26)]) (As := [.ref (ad 0), .int (nI k)]) (rest := []) ⟨hx, hb, hml, hown, hts⟩ (h_side l hfl D B ad κ H.size (nI k) n hR.1.2.1 hR.1.1) (vx_cwSW 2 hts gL_holds_L_side rfl rfl rfl hdS_L_side ⟨Nat.le_of_ble_eq_true rfl, Nat.le_of_ble_eq_true rfl⟩) (sPSz hS.1) rfl rfl hl.1 rfl (lv_room (Nat.le_of_ble_eq_true rfl)) dL_holds_208 ⟨(by show _ ≤ 1300; omega), (by show _ ≤ 7800; omega)⟩) hS (((oV_t (ok_k hR.1.2.1 hR.1.1 hk)).trans (by rw [ik]) : oV ((0 ≤ (nI k) ∧ (nI k) ≤ (κ 0 0 - 1))) (sdI (κ 12 (iN (nI k)))) (-2000000001) = sdI (κ 12 k))) (fun H locs hS => ?_)
              refine lv_aload_n hx hb dL_holds_211 rfl (lv_at hl 6 rfl) ?_
              refine lv_iload hx hb dL_holds_212 (lv_at hl 9 rfl) ?_
              refine lv_iconst (v := 1) hx hb dL_holds_214 (by decide +kernel) ?_
              refine lv_isub hx hb dL_holds_215 ?_
              refine lv_topi (fun zz ezz => ?_)
              obtain rfl : zz = nI (k - 1) := ezz.trans (nI_pre (by omega))
              refine l_rd (vx_runSX (hh := [(0, 5, 6, 26)]) (As := [.ref (ad 0), .int (nI (k - 1))]) (rest := [.int (sdI (κ 12 k))]) ⟨hx, hb, hml, hown, hts⟩ (h_side l hfl D B ad κ H.size (nI (k - 1)) n hR.1.2.1 hR.1.1) (vx_cwSW 2 hts gL_holds_L_side rfl rfl rfl hdS_L_side ⟨Nat.le_of_ble_eq_true rfl, Nat.le_of_ble_eq_true rfl⟩) (sPSz hS.1) rfl rfl hl.1 rfl (lv_room (Nat.le_of_ble_eq_true rfl)) dL_holds_216 ⟨(by show _ ≤ 1300; omega), (by show _ ≤ 7800; omega)⟩) hS (((oV_t (ok_k hR.1.2.1 hR.1.1 hk1)).trans (by rw [ik1]) : oV ((0 ≤ (nI (k - 1)) ∧ (nI (k - 1)) ≤ (κ 0 0 - 1))) (sdI (κ 12 (iN (nI (k - 1))))) (-2000000001) = sdI (κ 12 (k - 1)))) (fun H locs hS => ?_)
              refine lv_iadd hx hb dL_holds_219 ?_
              refine lv_iconst (v := 3) hx hb dL_holds_220 (by decide +kernel) ?_
              refine lv_icmp_ne (tgt := 270) hx hb dL_holds_221 (by decide) (fun c221 => absurd (hkc.2.1) c221) (fun c221 => ?_)
              have j235 : ∀ (v : Int32) (hv : v = bI (kindF (κ 12) k = 1)) (H : Heap) (locs : List Loc) (ls : Array Slot), rS D B (rA 0 ad s.heap.size) (CW D ad κ) s H locs → lv_has ls 13 [(3, .int (lsF (lossF (κ 12) (κ 4) (κ 9) n) (k + 1))), (9, .int (kindF (κ 12) k)), (8, .int (rowI (κ 12 k))), (7, .int (colI (κ 11 k))), (6, .int (κ 12 k)), (5, .int (κ 11 k)), (0, .ref (ad 0)), (1, .int (nI x)), (2, .int 1), (4, .int (nI k))] → W p l e ({ frames := 11, cells := 1300, slots := 7800, locals := 192 } : Room) s m ([.ref (ad 0), .int (nI x)] : List Value).toArray below meth c H locs (13 * k + 12) (78 * k + 72) (vx_MQ below (va_Qi (S := Unit) (fun rr _ => rr = 1) (fun _ _ => True) (rA 0 ad s.heap.size)) (fun _ _ _ => False) ([.ref (ad 0), .int (nI x)] : List Value).toArray s 1300 7800 (rA 0 ad s.heap.size)) (F0 m 235 ls [.int v]) := by
                intro v hv H locs ls hS hl
                subst hv
                refine lv_iload hx hb dL_holds_235 (lv_at hl 4 rfl) ?_
                refine s_ciS (As := [.int (κ 12 k)]) (rest := [.int (bI (kindF (κ 12) k = 1))]) ⟨hx, hb, hml, hown, hts⟩ (c_L_open l (κ 12 k)) (va_cwS 1 hts gL_holds_L_open rfl rfl rfl hdS_L_open ⟨Nat.le_of_ble_eq_true rfl, Nat.le_of_ble_eq_true rfl⟩) sPS0 rfl hl.1 rfl (Nat.le_of_ble_eq_true rfl) dL_holds_237 ⟨(by show _ ≤ 1300; omega), (by show _ ≤ 7800; omega)⟩ ?_
                refine lv_topi (fun zz ezz => ?_)
                obtain rfl : zz = opn (κ 12 k) := ezz.trans (by rw [ea]; exact opI_n ja hja)
                refine lv_aload_n hx hb dL_holds_240 rfl (lv_at hl 6 rfl) ?_
                refine lv_iload hx hb dL_holds_241 (lv_at hl 9 rfl) ?_
                refine lv_iconst (v := 1) hx hb dL_holds_243 (by decide +kernel) ?_
                refine lv_isub hx hb dL_holds_244 ?_
                refine lv_topi (fun zz ezz => ?_)
                obtain rfl : zz = nI (k - 1) := ezz.trans (nI_pre (by omega))
                refine l_rd (vx_runSX (hh := [(0, 5, 6, 26)]) (As := [.ref (ad 0), .int (nI (k - 1))]) (rest := [.int (opn (κ 12 k)), .int (bI (kindF (κ 12) k = 1))]) ⟨hx, hb, hml, hown, hts⟩ (h_angle l hfl D B ad κ H.size (nI (k - 1)) n hR.1.2.1 hR.1.1) (vx_cwSW 2 hts gL_holds_L_angle rfl rfl rfl hdS_L_angle ⟨Nat.le_of_ble_eq_true rfl, Nat.le_of_ble_eq_true rfl⟩) (sPSz hS.1) rfl rfl hl.1 rfl (lv_room (Nat.le_of_ble_eq_true rfl)) dL_holds_245 ⟨(by show _ ≤ 1300; omega), (by show _ ≤ 7800; omega)⟩) hS (((oV_t (ok_k hR.1.2.1 hR.1.1 hk1)).trans (by rw [ik1]) : oV ((0 ≤ (nI (k - 1)) ∧ (nI (k - 1)) ≤ (κ 0 0 - 1))) (κ 12 (iN (nI (k - 1)))) (-2000000001) = κ 12 (k - 1))) (fun H locs hS => ?_)
                refine s_ciS (As := [.int (κ 12 (k - 1))]) (rest := [.int (opn (κ 12 k)), .int (bI (kindF (κ 12) k = 1))]) ⟨hx, hb, hml, hown, hts⟩ (c_L_open l (κ 12 (k - 1))) (va_cwS 1 hts gL_holds_L_open rfl rfl rfl hdS_L_open ⟨Nat.le_of_ble_eq_true rfl, Nat.le_of_ble_eq_true rfl⟩) sPS0 rfl hl.1 rfl (Nat.le_of_ble_eq_true rfl) dL_holds_248 ⟨(by show _ ≤ 1300; omega), (by show _ ≤ 7800; omega)⟩ ?_
                refine lv_topi (fun zz ezz => ?_)
                obtain rfl : zz = opn (κ 12 (k - 1)) := ezz.trans (by rw [eb]; exact opI_n jb hjb)
                refine lv_iadd hx hb dL_holds_251 ?_
                have j263 : ∀ (v : Int32) (hv : v = bI (kindF (κ 12) k = 1)) (H : Heap) (locs : List Loc) (ls : Array Slot), rS D B (rA 0 ad s.heap.size) (CW D ad κ) s H locs → lv_has ls 13 [(3, .int (lsF (lossF (κ 12) (κ 4) (κ 9) n) (k + 1))), (9, .int (kindF (κ 12) k)), (8, .int (rowI (κ 12 k))), (7, .int (colI (κ 11 k))), (6, .int (κ 12 k)), (5, .int (κ 11 k)), (0, .ref (ad 0)), (1, .int (nI x)), (2, .int 1), (4, .int (nI k))] → W p l e ({ frames := 11, cells := 1300, slots := 7800, locals := 192 } : Room) s m ([.ref (ad 0), .int (nI x)] : List Value).toArray below meth c H locs (13 * k + 13) (78 * k + 78) (vx_MQ below (va_Qi (S := Unit) (fun rr _ => rr = 1) (fun _ _ => True) (rA 0 ad s.heap.size)) (fun _ _ _ => False) ([.ref (ad 0), .int (nI x)] : List Value).toArray s 1300 7800 (rA 0 ad s.heap.size)) (F0 m 263 ls [.int v, .int (bI (kindF (κ 12) k = 1))]) := by
                  intro v hv H locs ls hS hl
                  subst hv
                  refine lv_icmp_ne (tgt := 270) hx hb dL_holds_263 (by decide) (fun c263 => absurd (rfl) c263) (fun c263 => ?_)
                  refine W.widen (k := 13 * k + 13) (n := 78 * k + 78) (by omega) (by omega) ?_
                  exact j266  _ _ _ hS (lv_sub hl [0, 1, 2, 3, 4, 5, 6, 7, 8, 9] rfl)
                refine lv_sipush (v := 180) hx hb dL_holds_252 (by decide +kernel) ?_
                refine lv_icmp_ge (tgt := 262) hx hb dL_holds_255 (by decide) (fun c255 => ?_) (fun c255 => ?_)
                ·
                  refine lv_iconst (v := 0) hx hb dL_holds_262 (by decide +kernel) ?_
                  refine W.widen (k := 13 * k + 13) (n := 78 * k + 78) (by omega) (by omega) ?_
                  exact j263 0 (kd_2 hkc.2.2 c255) _ _ _ hS (lv_sub hl [0, 1, 2, 3, 4, 5, 6, 7, 8, 9] rfl)
                ·
                  refine lv_iconst (v := 1) hx hb dL_holds_258 (by decide +kernel) ?_
                  refine lv_goto (tgt := 263) hx hb dL_holds_259 (by decide) ?_
                  refine W.widen (k := 13 * k + 13) (n := 78 * k + 78) (by omega) (by omega) ?_
                  exact j263 1 (kd_1 hkc.2.2 c255) _ _ _ hS (lv_sub hl [0, 1, 2, 3, 4, 5, 6, 7, 8, 9] rfl)
              refine lv_iload hx hb dL_holds_224 (lv_at hl 1 rfl) ?_
              refine lv_iconst (v := 1) hx hb dL_holds_226 (by decide +kernel) ?_
              refine lv_icmp_ne (tgt := 234) hx hb dL_holds_227 (by decide) (fun c227 => ?_) (fun c227 => ?_)
              ·
                refine lv_iconst (v := 0) hx hb dL_holds_234 (by decide +kernel) ?_
                refine W.widen (k := 13 * k + 12) (n := 78 * k + 72) (by omega) (by omega) ?_
                exact j235 0 ((bI_f c227).symm) _ _ _ hS (lv_sub hl [0, 1, 2, 3, 4, 5, 6, 7, 8, 9] rfl)
              ·
                refine lv_iconst (v := 1) hx hb dL_holds_230 (by decide +kernel) ?_
                refine lv_goto (tgt := 235) hx hb dL_holds_231 (by decide) ?_
                refine W.widen (k := 13 * k + 12) (n := 78 * k + 72) (by omega) (by omega) ?_
                exact j235 1 ((bI_t c227).symm) _ _ _ hS (lv_sub hl [0, 1, 2, 3, 4, 5, 6, 7, 8, 9] rfl)
            ·
              refine lv_aload_n hx hb dL_holds_188 rfl (lv_at hl 6 rfl) ?_
              refine lv_iload hx hb dL_holds_189 (lv_at hl 9 rfl) ?_
              refine l_rd (vx_runSX (hh := [(0, 5, 6, 26)]) (As := [.ref (ad 0), .int (nI k)]) (rest := []) ⟨hx, hb, hml, hown, hts⟩ (h_cost l hfl D B ad κ H.size (nI k) n hR.1.2.1 hR.1.1) (vx_cwSW 2 hts gL_holds_L_cost rfl rfl rfl hdS_L_cost ⟨Nat.le_of_ble_eq_true rfl, Nat.le_of_ble_eq_true rfl⟩) (sPSz hS.1) rfl rfl hl.1 rfl (lv_room (Nat.le_of_ble_eq_true rfl)) dL_holds_191 ⟨(by show _ ≤ 1300; omega), (by show _ ≤ 7800; omega)⟩) hS (((oV_t (ok_k hR.1.2.1 hR.1.1 hk)).trans (by rw [ik]) : oV ((0 ≤ (nI k) ∧ (nI k) ≤ (κ 0 0 - 1))) (lossF (κ 12) (κ 4) (κ 9) n (iN (nI k))) (-2000000001) = lossF (κ 12) (κ 4) (κ 9) n k)) (fun H locs hS => ?_)
              refine lv_if_ne (tgt := 270) hx hb dL_holds_194 (by decide) (fun c194 => absurd ((loss_0 c185).symm) c194) (fun c194 => ?_)
              refine lv_goto (tgt := 266) hx hb dL_holds_197 (by decide) ?_
              refine W.widen (k := 13 * k + 13) (n := 78 * k + 78) (by omega) (by omega) ?_
              exact j266  _ _ _ hS (lv_sub hl [0, 1, 2, 3, 4, 5, 6, 7, 8, 9] rfl)
          refine lv_iload hx hb dL_holds_109 (lv_at hl 4 rfl) ?_
          refine lv_sipush (v := 180) hx hb dL_holds_111 (by decide +kernel) ?_
          refine lv_irem hx hb dL_holds_114 (by decide +kernel) ?_
          refine lv_if_ne (tgt := 122) hx hb dL_holds_115 (by decide) (fun c115 => ?_) (fun c115 => ?_)
          ·
            refine lv_iload hx hb dL_holds_122 (lv_at hl 4 rfl) ?_
            refine lv_sipush (v := 180) hx hb dL_holds_124 (by decide +kernel) ?_
            refine lv_icmp_ge (tgt := 134) hx hb dL_holds_127 (by decide) (fun c127 => ?_) (fun c127 => ?_)
            ·
              refine lv_iconst (v := 2) hx hb dL_holds_134 (by decide +kernel) ?_
              refine W.widen (k := 13 * k + 5) (n := 78 * k + 30) (by omega) (by omega) ?_
              exact j135 2 (hs_2 ea hja c115 c127) _ _ _ hS (lv_sub hl [0, 1, 2, 3, 4, 5, 6, 7, 8, 9] rfl)
            ·
              refine lv_iconst (v := 1) hx hb dL_holds_130 (by decide +kernel) ?_
              refine lv_goto (tgt := 135) hx hb dL_holds_131 (by decide) ?_
              refine W.widen (k := 13 * k + 5) (n := 78 * k + 30) (by omega) (by omega) ?_
              exact j135 1 (hs_1 ea hja c115 c127) _ _ _ hS (lv_sub hl [0, 1, 2, 3, 4, 5, 6, 7, 8, 9] rfl)
          ·
            refine lv_iconst (v := 0) hx hb dL_holds_118 (by decide +kernel) ?_
            refine lv_goto (tgt := 135) hx hb dL_holds_119 (by decide) ?_
            refine W.widen (k := 13 * k + 5) (n := 78 * k + 30) (by omega) (by omega) ?_
            exact j135 0 (hs_0 ea hja c115) _ _ _ hS (lv_sub hl [0, 1, 2, 3, 4, 5, 6, 7, 8, 9] rfl)
        refine lv_iload hx hb dL_holds_36 (lv_at hl 1 rfl) ?_
        refine lv_bipush (v := 40) hx hb dL_holds_38 (by decide +kernel) ?_
        refine lv_idiv hx hb dL_holds_40 (by decide +kernel) ?_
        refine lv_bipush (v := 9) hx hb dL_holds_41 (by decide +kernel) ?_
        refine lv_icmp_le (tgt := 51) hx hb dL_holds_43 (by decide) (fun c43 => ?_) (fun c43 => ?_)
        ·
          refine lv_iload hx hb dL_holds_51 (lv_at hl 1 rfl) ?_
          refine lv_bipush (v := 40) hx hb dL_holds_53 (by decide +kernel) ?_
          refine lv_idiv hx hb dL_holds_55 (by decide +kernel) ?_
          refine W.widen (k := 13 * k + 2) (n := 78 * k + 12) (by omega) (by omega) ?_
          exact j56 ((κ 11 k) / 40) (by rw [← colI_min, if_neg]; rw [i32_le] at c43; rw [i32_lt]; omega) _ _ _ hS (lv_sub hl [0, 1, 2, 3, 4, 5, 6] rfl)
        ·
          refine lv_bipush (v := 9) hx hb dL_holds_46 (by decide +kernel) ?_
          refine lv_goto (tgt := 56) hx hb dL_holds_48 (by decide) ?_
          refine W.widen (k := 13 * k + 2) (n := 78 * k + 12) (by omega) (by omega) ?_
          exact j56 9 (by rw [← colI_min, if_pos (nle c43)]) _ _ _ hS (lv_sub hl [0, 1, 2, 3, 4, 5, 6] rfl)
  refine W.widen (k := 13 * 0 + 0) (n := 78 * 0 + 0) (by omega) (by omega) ?_
  exact loop7 (n + 1) 0 (by omega) (by omega) _ _ _ hS (lv_sub hl [3, 4, 2, 1, 0] rfl)
end SLaw6
