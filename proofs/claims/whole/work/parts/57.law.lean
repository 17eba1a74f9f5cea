/-! ===== the law's loop, and its start ===== -/
section SLaw
theorem def_X3 : ∀ j, j < 9 → defaultValue (tyX3 j) = vp_V [.null, .null, .null, .null, .null, .int 0, .int 0, .int 0, .int 0] j := by
  intro j hj
  rcases (show j = 0 ∨ j = 1 ∨ j = 2 ∨ j = 3 ∨ j = 4 ∨ j = 5 ∨ j = 6 ∨ j = 7 ∨ j = 8 by omega) with rfl | rfl | rfl | rfl | rfl | rfl | rfl | rfl | rfl <;> rfl
theorem def_X4 : ∀ j, j < 12 → defaultValue (tyX4 j) = vp_V [.int 0, .int 0, .null, .null, .null, .null, .null, .int 0, .int 0, .int 0, .null, .null] j := by
  intro j hj
  rcases (show j = 0 ∨ j = 1 ∨ j = 2 ∨ j = 3 ∨ j = 4 ∨ j = 5 ∨ j = 6 ∨ j = 7 ∨ j = 8 ∨ j = 9 ∨ j = 10 ∨ j = 11 by omega) with rfl | rfl | rfl | rfl | rfl | rfl | rfl | rfl | rfl | rfl | rfl | rfl <;> rfl
theorem i32_L (n : Nat) : Int32.ofNat n = nI n := rfl
theorem loop_c {L i : Nat} (hL : L ≤ 3072) (hi : i ≤ L) (h : ¬ nI L - 6 < nI i) : i + 6 ≤ L := by
  have c6 : (6 : Int32).toInt = 6 := by decide +kernel
  have e1 : (nI L).toInt = (L : Int) := nI_toInt (by omega)
  have e2 : (nI i).toInt = (i : Int) := nI_toInt (by omega)
  rw [i32_lt, i32_sub (by omega) (by omega)] at h
  omega
set_option maxRecDepth 100000 in
set_option maxHeartbeats 4000000 in
theorem law_loop {p : Program} {l : Launch} {e : Env} {s : State} {m : MethodId} {below : List Frame} {meth : Method} {c : Code} {b L : Nat} {xs : Nat → Int32} {D : sD} {ad md : Nat → Nat} (hflags : l.flags = flags0) (hL : L ≤ 3072) (C0 : lw_At p s m meth c b L xs) : ∀ (fuel i : Nat), i ≤ L → L + 1 ≤ i + fuel → ∀ (κ τ : sQ) (f : Nat → Int64) (rf : Int32) (n : Nat) (H : Heap) (locs : List Loc) (ls : Array Slot), sJ D s.heap.size (OW D ad κ f ++ MW D md rf τ) s H → va_S (fun q : Nat => s.heap.size ≤ q) s.heap H locs → sRel κ τ n → lv_has ls 7 [(0, .ref b), (1, .ref (ad 0)), (2, .ref (md 0)), (3, .ref (ad 68)), (4, .int (nI i))] → W p l e room_1 s m #[Value.ref b] below meth c H locs (100 + i) (2000 + 6 * i) (lw_Z below #[Value.ref b] s) (F0 m 23 ls []) := by
  obtain ⟨hx, hb, hr, hml, hown, hts0, hX, hbl, hlk, hgv⟩ := id C0
  have hbA : ¬ (fun q : Nat => s.heap.size ≤ q) b := Nat.not_le.mpr hbl
  intro fuel
  induction fuel with
  | zero => intro i h1 h2; exact absurd h2 (by omega)
  | succ fuel ih =>
    intro i hiL hfu κ τ f rf n H locs ls hJ hS hR hl
    refine lv_iload hx hb dL_law_23 (lv_at hl 4 rfl) ?_
    refine lv_aload_n hx hb dL_law_25 rfl (lv_at hl 0 rfl) ?_
    refine va_slen hx hb hX hbl hbA hS dL_law_26 ?_
    refine lv_bipush (v := 6) hx hb dL_law_27 (by decide +kernel) ?_
    refine lv_isub hx hb dL_law_29 ?_
    refine lv_icmp_gt (tgt := 1349) hx hb dL_law_30 (by decide) (fun c30 => ?_) (fun c30 => ?_)
    ·
      refine lv_iconst (v := 1) hx hb dL_law_1349 (by decide +kernel) ?_
      refine va_forget (fun q hq => hS.2.2 q hq) ?_
      refine W.widen (k := 601024) (n := 7293034) (by omega) (by omega) ?_
      exact lw_ret hx hb hr hlk dL_law_1350
    ·
      have hi : i + 6 ≤ L := loop_c hL hiL c30
      have hN : lgN p l e s m below meth c b D ad md i (100 + i) (2000 + 6 * i) := by
        intro κ τ f rf n H locs ls hJ hS hR hl
        refine lv_iinc (v := nI (i + 6)) (lv' := [(4, .int (nI (i + 6))), (0, .ref b), (1, .ref (ad 0)), (2, .ref (md 0)), (3, .ref (ad 68))]) hx hb dL_law_1343 hl (k := 4) rfl (nI_add i 6) (by decide) rfl (fun ls hl => ?_)
        refine lv_goto (tgt := 23) hx hb dL_law_1346 (by decide) ?_
        refine W.widen (k := 100 + (i + 6)) (n := 2000 + 6 * (i + 6)) (by omega) (by omega) ?_
        exact ih (i + 6) hi (by omega) κ τ f rf n H locs ls hJ hS hR (lv_sub hl [1, 2, 3, 4, 0] rfl)
      refine lv_aload_n hx hb dL_law_33 rfl (lv_at hl 0 rfl) ?_
      refine lv_iload hx hb dL_law_34 (lv_at hl 4 rfl) ?_
      refine va_sld hx hb hX hbl hbA hS (vp_in_nI (show i < L by omega) (by omega)) dL_law_36 ?_
      refine lv_bipush (v := 31) hx hb dL_law_37 (by decide +kernel) ?_
      refine lv_iand hx hb dL_law_39 ?_
      refine lv_topi (fun x hx9 => ?_)
      by_cases ho : x.toInt < 0 ∨ 20 < x.toInt
      · refine lv_tableOut (tgt := 1343) hx hb dL_law_40 ho (by decide) ?_
        refine W.widen (k := 100 + i + 6) (n := 2000 + 6 * i + 6 * 6) (by omega) (by omega) ?_
        exact hN κ τ f rf n H locs ls hJ hS hR hl
      · have hk : x.toInt = 0 ∨ x.toInt = 1 ∨ x.toInt = 2 ∨ x.toInt = 3 ∨ x.toInt = 4 ∨ x.toInt = 5 ∨ x.toInt = 6 ∨ x.toInt = 7 ∨ x.toInt = 8 ∨ x.toInt = 9 ∨ x.toInt = 10 ∨ x.toInt = 11 ∨ x.toInt = 12 ∨ x.toInt = 13 ∨ x.toInt = 14 ∨ x.toInt = 15 ∨ x.toInt = 16 ∨ x.toInt = 17 ∨ x.toInt = 18 ∨ x.toInt = 19 ∨ x.toInt = 20 := by omega
        rcases hk with hk | hk | hk | hk | hk | hk | hk | hk | hk | hk | hk | hk | hk | hk | hk | hk | hk | hk | hk | hk | hk
        · exact lv_tableIn (off := 100) (tgt := 140) hx hb dL_law_40 (by omega) (by omega) (by rw [hk]; rfl) (by decide) (lc_log hflags hL C0 hi (by omega) (by omega) hN hJ hS hR hl)
        · exact lv_tableIn (off := 204) (tgt := 244) hx hb dL_law_40 (by omega) (by omega) (by rw [hk]; rfl) (by decide) (lc_setFaults hflags hL C0 hi (by omega) (by omega) hN hJ hS hR hl)
        · exact lv_tableIn (off := 284) (tgt := 324) hx hb dL_law_40 (by omega) (by omega) (by rw [hk]; rfl) (by decide) (lc_setTide hflags hL C0 hi (by omega) (by omega) hN hJ hS hR hl)
        · exact lv_tableIn (off := 364) (tgt := 404) hx hb dL_law_40 (by omega) (by omega) (by rw [hk]; rfl) (by decide) (lc_entries hflags hL C0 hi (by omega) (by omega) hN hJ hS hR hl)
        · exact lv_tableIn (off := 377) (tgt := 417) hx hb dL_law_40 (by omega) (by omega) (by rw [hk]; rfl) (by decide) (lc_sine hflags hL C0 hi (by omega) (by omega) hN hJ hS hR hl)
        · exact lv_tableIn (off := 402) (tgt := 442) hx hb dL_law_40 (by omega) (by omega) (by rw [hk]; rfl) (by decide) (lc_speed hflags hL C0 hi (by omega) (by omega) hN hJ hS hR hl)
        · exact lv_tableIn (off := 458) (tgt := 498) hx hb dL_law_40 (by omega) (by omega) (by rw [hk]; rfl) (by decide) (lc_strength hflags hL C0 hi (by omega) (by omega) hN hJ hS hR hl)
        · exact lv_tableIn (off := 514) (tgt := 554) hx hb dL_law_40 (by omega) (by omega) (by rw [hk]; rfl) (by decide) (lc_angle hflags hL C0 hi (by omega) (by omega) hN hJ hS hR hl)
        · exact lv_tableIn (off := 570) (tgt := 610) hx hb dL_law_40 (by omega) (by omega) (by rw [hk]; rfl) (by decide) (lc_from hflags hL C0 hi (by omega) (by omega) hN hJ hS hR hl)
        · exact lv_tableIn (off := 626) (tgt := 666) hx hb dL_law_40 (by omega) (by omega) (by rw [hk]; rfl) (by decide) (lc_side hflags hL C0 hi (by omega) (by omega) hN hJ hS hR hl)
        · exact lv_tableIn (off := 682) (tgt := 722) hx hb dL_law_40 (by omega) (by omega) (by rw [hk]; rfl) (by decide) (lc_best hflags hL C0 hi (by omega) (by omega) hN hJ hS hR hl)
        · exact lv_tableIn (off := 750) (tgt := 790) hx hb dL_law_40 (by omega) (by omega) (by rw [hk]; rfl) (by decide) (lc_bestByLog hflags hL C0 hi (by omega) (by omega) hN hJ hS hR hl)
        · exact lv_tableIn (off := 818) (tgt := 858) hx hb dL_law_40 (by omega) (by omega) (by rw [hk]; rfl) (by decide) (lc_bestUp hflags hL C0 hi (by omega) (by omega) hN hJ hS hR hl)
        · exact lv_tableIn (off := 874) (tgt := 914) hx hb dL_law_40 (by omega) (by omega) (by rw [hk]; rfl) (by decide) (lc_bestDown hflags hL C0 hi (by omega) (by omega) hN hJ hS hR hl)
        · exact lv_tableIn (off := 930) (tgt := 970) hx hb dL_law_40 (by omega) (by omega) (by rw [hk]; rfl) (by decide) (lc_bestCourse hflags hL C0 hi (by omega) (by omega) hN hJ hS hR hl)
        · exact lv_tableIn (off := 1010) (tgt := 1050) hx hb dL_law_40 (by omega) (by omega) (by rw [hk]; rfl) (by decide) (lc_turn hflags hL C0 hi (by omega) (by omega) hN hJ hS hR hl)
        · exact lv_tableIn (off := 1066) (tgt := 1106) hx hb dL_law_40 (by omega) (by omega) (by rw [hk]; rfl) (by decide) (lc_cost hflags hL C0 hi (by omega) (by omega) hN hJ hS hR hl)
        · exact lv_tableIn (off := 1122) (tgt := 1162) hx hb dL_law_40 (by omega) (by omega) (by rw [hk]; rfl) (by decide) (lc_costs hflags hL C0 hi (by omega) (by omega) hN hJ hS hR hl)
        · exact lv_tableIn (off := 1178) (tgt := 1218) hx hb dL_law_40 (by omega) (by omega) (by rw [hk]; rfl) (by decide) (lc_east hflags hL C0 hi (by omega) (by omega) hN hJ hS hR hl)
        · exact lv_tableIn (off := 1234) (tgt := 1274) hx hb dL_law_40 (by omega) (by omega) (by rw [hk]; rfl) (by decide) (lc_north hflags hL C0 hi (by omega) (by omega) hN hJ hS hR hl)
        · exact lv_tableIn (off := 1290) (tgt := 1330) hx hb dL_law_40 (by omega) (by omega) (by rw [hk]; rfl) (by decide) (lc_vaneShown hflags hL C0 hi (by omega) (by omega) hN hJ hS hR hl)
def sAd (u : Nat → Nat) (o : Nat) : Nat → Nat := fun k => if k = 68 then o else u k
theorem CW_ad (D : sD) (u ad : Nat → Nat) (κ : sQ) (h : ∀ k, k < 68 → ad k = u k) : (CW D u κ).set 3 (u 3, .inl (D.2.2.1, 60, .inr (.inr (.inr (.inr (fun k => some (ad (8 + k)))))))) = CW D ad κ := by
  have e : CWe ad κ = CWe u κ := List.map_congr_left (fun i hi => by rw [h (8 + i) (by have := List.mem_range.mp hi; omega)])
  unfold CW
  rw [e]
  unfold CW8
  rw [h 0 (by omega), h 1 (by omega), h 2 (by omega), h 3 (by omega), h 4 (by omega), h 5 (by omega), h 6 (by omega), h 7 (by omega)]
  rfl
set_option maxRecDepth 100000 in
set_option maxHeartbeats 4000000 in
/-- THE LAW, from its entry -/
theorem whole_start {p : Program} {e : Env} {s : State} {m : MethodId} {below : List Frame} {meth : Method} {c : Code} (l : Launch) (hflags : l.flags = flags0) {b L : Nat} {xs : Nat → Int32} (hL : L ≤ 3072) (C0 : lw_At p s m meth c b L xs) : W p l e room_1 s m #[Value.ref b] below meth c s.heap [] 0 0 (lw_Z below #[Value.ref b] s) (entryFrame m ([Value.ref b] : List Value).toArray 7) := by
  obtain ⟨hx, hb, hr, hml, hown, hts0, hX, hbl, hlk, hgv⟩ := id C0
  have hA : ∀ q : Nat, s.heap.size ≤ q → (fun q : Nat => s.heap.size ≤ q) q := fun _ h => h
  obtain ⟨D, hK⟩ := k_K hts0 hgv
  have hZ := k_Z hts0 hgv
  have hts : ∀ w ∈ wsL_law, w.before #[Value.ref b] s = true := fun w h => hts0 w (wsL_law_in w h)
  have hown : s.vm.findClass RL = some m.cls := hown
  have hS : va_S (fun q : Nat => s.heap.size ≤ q) s.heap s.heap [] := va_S.rf
  have hP : va_P D.1 vwCl [] s.heap := fun k q h => by simp at h
  have hD : va_D (fun q : Nat => s.heap.size ≤ q) [] := ⟨fun i j p q h => by simp at h, fun k q h => by simp at h⟩
  have hl := lv_entry ([.ref b]) (n := 7) (Nat.le_of_ble_eq_true rfl)
  rw [lg_entry_eq]
  generalize (lg_sl ([.ref b]) ++ List.replicate (7 - (lg_sl ([.ref b])).length) Slot.unset).toArray = ls at hl ⊢
  have hl : lv_has ls 7 [(0, .ref b)] := hl
  have i3 : ∀ w ∈ wsX30, w ∈ lw_tbl := inX3
  refine va_new (D := D.1) (cl := vwCl) (ci := 3) (fs := [.null, .null, .null, .null, .null, .int 0, .int 0, .int 0, .int 0]) (C := RX3) (T := TX3) (N := 9) hx hb hts0 inX3 tyX3 tyX3_ok hown (hts0 (.classLink RL 8 RX3) (by decide +kernel)) (hts0 (.instantiable RX3 9) (by decide +kernel)) (hts0 (.initialized RX3) (by decide +kernel)) hK.1 hP hD hS hA rfl def_X3 (Nat.le_of_ble_eq_true rfl) (Nat.le_of_ble_eq_true rfl) dL_law_0 (fun q0 H hP hD hS => ?_)
  have hP : va_P D.1 vwCl [(q0, .inr (3, [.null, .null, .null, .null, .null, .int 0, .int 0, .int 0, .int 0]))] H := hP
  have hD : va_D (fun q : Nat => s.heap.size ≤ q) [(q0, .inr (3, [.null, .null, .null, .null, .null, .int 0, .int 0, .int 0, .int 0]))] := hD
  refine W.widen (k := 1) (n := 9) (by omega) (by omega) ?_
  refine lv_dup hx hb dL_law_3 rfl ?_
  have hFc := va_free (wc := [(q0, .inr (3, [.null, .null, .null, .null, .null, .int 0, .int 0, .int 0, .int 0]))]) hD hS hA [0] rfl
  refine va_callv (va_runI (As := []) (rest := [.ref q0]) ⟨hx, hb, hml, hown, hts⟩ (c_X3_init l D q0 H.size) (cwI 0 hts gL_law_X3_init rfl rfl rfl (hts0 (.initialized RX3) (by decide +kernel)) (hts0 (.methodLink RL 73 yX3_init) (by decide +kernel)) (hts0 (.instanceMethod yX3_init) (by decide +kernel)) rfl hdI_X3_init ⟨Nat.le_of_ble_eq_true rfl, Nat.le_of_ble_eq_true rfl⟩) (sPSc hP hD hK) rfl rfl hl.1 rfl (lv_room (Nat.le_of_ble_eq_true rfl)) dL_law_4 ⟨Nat.le_of_ble_eq_true rfl, Nat.le_of_ble_eq_true rfl⟩) hS (fun q _ h => hFc q h) hFc (fun u t H1 locs ht hvm hw hB hz1 hk1 hS => ?_)
  obtain ⟨hu0, hP1, hD1⟩ := hB
  rw [ht] at hP1
  obtain ⟨hP, hD⟩ := va_join (wr := []) (w1 := CW D u κ0) hP hD [0] [] rfl rfl (by decide) (by decide) hk1 hFc hP1 hD1
  generalize H1 = H at hP hS ⊢
  have hP : va_P D.1 vwCl (CW D u κ0) H := hP
  have hD : va_D (fun q : Nat => s.heap.size ≤ q) (CW D u κ0) := hD
  refine W.widen (k := 68) (n := 1299) (by omega) (by omega) ?_
  refine lv_astore_n (lv' := [(1, .ref q0), (0, .ref b)]) hx hb dL_law_7 rfl hl (by decide) rfl (fun ls hl => ?_)
  refine va_new (D := D.1) (cl := vwCl) (ci := 4) (fs := [.int 0, .int 0, .null, .null, .null, .null, .null, .int 0, .int 0, .int 0, .null, .null]) (C := RX4) (T := TX4) (N := 12) hx hb hts0 inX4 tyX4 tyX4_ok hown (hts0 (.classLink RL 74 RX4) (by decide +kernel)) (hts0 (.instantiable RX4 12) (by decide +kernel)) (hts0 (.initialized RX4) (by decide +kernel)) hK.1 hP hD hS hA rfl def_X4 (Nat.le_of_ble_eq_true rfl) (Nat.le_of_ble_eq_true rfl) dL_law_8 (fun q8 H hP hD hS => ?_)
  have hP : va_P D.1 vwCl ([(q8, .inr (4, [.int 0, .int 0, .null, .null, .null, .null, .null, .int 0, .int 0, .int 0, .null, .null]))] ++ CW D u κ0) H := va_P.swap (a := []) (b := CW D u κ0) (c := [(q8, .inr (4, [.int 0, .int 0, .null, .null, .null, .null, .null, .int 0, .int 0, .int 0, .null, .null]))]) hP
  have hD : va_D (fun q : Nat => s.heap.size ≤ q) ([(q8, .inr (4, [.int 0, .int 0, .null, .null, .null, .null, .null, .int 0, .int 0, .int 0, .null, .null]))] ++ CW D u κ0) := va_D.swap (a := []) (b := CW D u κ0) (c := [(q8, .inr (4, [.int 0, .int 0, .null, .null, .null, .null, .null, .int 0, .int 0, .int 0, .null, .null]))]) hD
  refine W.widen (k := 69) (n := 1311) (by omega) (by omega) ?_
  refine lv_dup hx hb dL_law_11 rfl ?_
  have hPc := va_P_left hP
  have hDc := va_D_left hD
  have hFc := va_free (wc := [(q8, .inr (4, [.int 0, .int 0, .null, .null, .null, .null, .null, .int 0, .int 0, .int 0, .null, .null]))]) hD hS hA [0] rfl
  refine va_callv (va_runI (As := []) (rest := [.ref q8]) ⟨hx, hb, hml, hown, hts⟩ (c_X4_init l D q8 H.size) (cwI 0 hts gL_law_X4_init rfl rfl rfl (hts0 (.initialized RX4) (by decide +kernel)) (hts0 (.methodLink RL 76 yX4_init) (by decide +kernel)) (hts0 (.instanceMethod yX4_init) (by decide +kernel)) rfl hdI_X4_init ⟨Nat.le_of_ble_eq_true rfl, Nat.le_of_ble_eq_true rfl⟩) (sPSc hPc hDc hK) rfl rfl hl.1 rfl (lv_room (Nat.le_of_ble_eq_true rfl)) dL_law_12 ⟨Nat.le_of_ble_eq_true rfl, Nat.le_of_ble_eq_true rfl⟩) hS (fun q _ h => hFc q h) hFc (fun v t H1 locs ht hvm hw hB hz1 hk1 hS => ?_)
  obtain ⟨hv0, hP1, hD1⟩ := hB
  rw [ht] at hP1
  obtain ⟨hP, hD⟩ := va_joinQ (X := [(q8, .inr (4, [.int 0, .int 0, .null, .null, .null, .null, .null, .int 0, .int 0, .int 0, .null, .null]))]) (pl := CW D u κ0) (wr := []) (w1 := MW D v 0 κ0) hP hD [0] [] rfl rfl (by decide) (by decide) hk1 hFc hP1 hD1
  generalize H1 = H at hP hS ⊢
  have hP : va_P D.1 vwCl (CW D u κ0 ++ MW D v 0 κ0) H := va_P.swap (a := []) (b := MW D v 0 κ0) (c := CW D u κ0) hP
  have hD : va_D (fun q : Nat => s.heap.size ≤ q) (CW D u κ0 ++ MW D v 0 κ0) := va_D.swap (a := []) (b := MW D v 0 κ0) (c := CW D u κ0) hD
  refine W.widen (k := 76) (n := 1659) (by omega) (by omega) ?_
  refine lv_astore_n (lv' := [(2, .ref q8), (1, .ref q0), (0, .ref b)]) hx hb dL_law_15 rfl hl (by decide) rfl (fun ls hl => ?_)
  refine lv_iconst (v := 1) hx hb dL_law_16 (by decide +kernel) ?_
  refine va_newa (D := D.1) (cl := vwCl) (tys := sTys D) (atype := .long) (ty := .long) (a0 := (1, .inr (.inl (fun _ => 0)))) (N' := 1) hx hb (hts0 (.arrayClass .long) (by decide +kernel)) rfl hK.1 hP hD hS hA (fun cA => rfl) (by decide +kernel) (by decide +kernel) (by decide) (Nat.le_of_ble_eq_true rfl) (Nat.le_of_ble_eq_true rfl) dL_law_17 (fun o cA H hK1 hP hD hS => ?_)
  have ecA : cA = D.2.2.2.1 := Option.some.inj (Eq.trans (Eq.symm (hK1.2 3 (cA, .long) rfl).2) (hK.1.2 2 (D.2.2.2.1, .long) rfl).2)
  subst ecA
  have hP : va_P D.1 vwCl ((CW D u κ0 ++ [(o, .inl (D.2.2.2.1, 1, .inr (.inl (fun _ => 0))))]) ++ MW D v 0 κ0) H := va_P.swap (a := CW D u κ0) (b := MW D v 0 κ0) (c := [(o, .inl (D.2.2.2.1, 1, .inr (.inl (fun _ => 0))))]) hP
  have hD : va_D (fun q : Nat => s.heap.size ≤ q) ((CW D u κ0 ++ [(o, .inl (D.2.2.2.1, 1, .inr (.inl (fun _ => 0))))]) ++ MW D v 0 κ0) := va_D.swap (a := CW D u κ0) (b := MW D v 0 κ0) (c := [(o, .inl (D.2.2.2.1, 1, .inr (.inl (fun _ => 0))))]) hD
  have had : ∀ k, k < 68 → sAd u o k = u k := fun k hk => if_neg (by omega)
  have hP := arr_extq (k := 3) hP rfl (g := fun k => some (sAd u o (8 + k))) (fun j hj => by rw [had (8 + j) (by omega)])
  have hD := hD.set (p := 3) (e := .inl (D.2.2.1, 60, .inr (.inr (.inr (.inr (fun k => some (sAd u o (8 + k)))))))) rfl
  have hP : va_P D.1 vwCl (((CW D u κ0).set 3 (u 3, .inl (D.2.2.1, 60, .inr (.inr (.inr (.inr (fun k => some (sAd u o (8 + k)))))))) ++ [(o, .inl (D.2.2.2.1, 1, .inr (.inl (fun _ => 0))))]) ++ MW D v 0 κ0) H := hP
  have hD : va_D (fun q : Nat => s.heap.size ≤ q) (((CW D u κ0).set 3 (u 3, .inl (D.2.2.1, 60, .inr (.inr (.inr (.inr (fun k => some (sAd u o (8 + k)))))))) ++ [(o, .inl (D.2.2.2.1, 1, .inr (.inl (fun _ => 0))))]) ++ MW D v 0 κ0) := hD
  rw [CW_ad D u (sAd u o) κ0 had] at hP hD
  have hJ : sJ D s.heap.size (OW D (sAd u o) κ0 (fun _ => 0) ++ MW D v 0 κ0) s H := ⟨hP, hD, hS.1, hK, hZ.kept (fun a h1 h2 => hS.2.1 a h1 h2)⟩
  refine W.widen (k := 77) (n := 1660) (by omega) (by omega) ?_
  refine lv_astore_n (lv' := [(3, .ref o), (2, .ref q8), (1, .ref q0), (0, .ref b)]) hx hb dL_law_19 rfl hl (by decide) rfl (fun ls hl => ?_)
  refine lv_iconst (v := 0) hx hb dL_law_20 (by decide +kernel) ?_
  refine lv_istore (lv' := [(4, .int 0), (3, .ref o), (2, .ref q8), (1, .ref q0), (0, .ref b)]) hx hb dL_law_21 hl (by decide) rfl (fun ls hl => ?_)
  have e0 : q0 = sAd u o 0 := by rw [had 0 (by omega)]; exact hu0.symm
  rw [e0, ← hv0] at hl
  have hl : lv_has ls 7 [(4, .int (nI 0)), (3, .ref (sAd u o 68)), (2, .ref (v 0)), (1, .ref (sAd u o 0)), (0, .ref b)] := hl
  refine W.widen (k := 100 + 0) (n := 2000 + 6 * 0) (by omega) (by omega) ?_
  exact law_loop hflags hL C0 (L + 1) 0 (Nat.zero_le L) (by omega) κ0 κ0 (fun _ => 0) 0 0 H _ ls hJ hS sRel_0 (lv_sub hl [4, 3, 2, 1, 0] rfl)
end SLaw
