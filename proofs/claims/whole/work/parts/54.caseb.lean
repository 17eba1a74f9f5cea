section SCasesB
variable {p : Program} {l : Launch} {e : Env} {s : State} {m : MethodId} {below : List Frame} {meth : Method} {c : Code} {b L i n C S : Nat} {xs : Nat → Int32} {D : sD} {ad md : Nat → Nat} {κ τ : sQ} {f : Nat → Int64} {rf : Int32} {H : Heap} {locs : List Loc} {ls : Array Slot}
set_option maxRecDepth 100000 in
set_option maxHeartbeats 4000000 in
theorem lc_entries (hflags : l.flags = flags0) (hL : L ≤ 3072) (C0 : lw_At p s m meth c b L xs) (hi : i + 6 ≤ L) (hC : C ≤ 10000) (hSl : S ≤ 100000) (hN : lgN p l e s m below meth c b D ad md i C S) (hJ : sJ D s.heap.size (OW D ad κ f ++ MW D md rf τ) s H) (hS : va_S (fun q : Nat => s.heap.size ≤ q) s.heap H locs) (hR : sRel κ τ n) (hl : lv_has ls 7 [(0, .ref b), (1, .ref (ad 0)), (2, .ref (md 0)), (3, .ref (ad 68)), (4, .int (nI i))]) : W p l e room_1 s m #[Value.ref b] below meth c H locs C S (lw_Z below #[Value.ref b] s) (F0 m 404 ls []) := by
  obtain ⟨hx, hb, hr, hml, hown, hts0, hX, hbl, hlk, hgv⟩ := C0
  have hts : ∀ w ∈ wsL_law, w.before #[Value.ref b] s = true := fun w h => hts0 w (wsL_law_in w h)
  have hown : s.vm.findClass RL = some m.cls := hown
  have hbA : ¬ (fun q : Nat => s.heap.size ≤ q) b := Nat.not_le.mpr hbl
  refine lv_aload_n hx hb dL_law_404 rfl (lv_at hl 1 rfl) ?_
  have hJ3 : sJ D s.heap.size (CW D ad κ) s H := sJ.left (b := [(ad 68, .inl (D.2.2.2.1, 1, .inr (.inl f)))]) hJ.left
  refine s_ciV (As := []) (rest := []) ⟨hx, hb, hml, hown, hts⟩ (c_X3_entries l D s.heap.size ad κ ) (cwV 0 hts gL_law_X3_entries rfl rfl rfl hdV_X3_entries ⟨Nat.le_of_ble_eq_true rfl, Nat.le_of_ble_eq_true rfl⟩) (sPV hJ3 (ci := 3) (q0 := 0) rfl rfl) rfl hl.1 rfl (Nat.le_of_ble_eq_true rfl) dL_law_405 ⟨(by show C ≤ 601024; omega), (by show S ≤ 7293034; omega)⟩ ?_
  refine lv_aload_n hx hb dL_law_408 rfl (lv_at hl 2 rfl) ?_
  refine l_model (va_runV (As := []) (rest := [.int (κ 0 0)]) ⟨hx, hb, hml, hown, hts⟩ (c_X4_entries l D s.heap.size md rf τ H.size) (cwV 0 hts gL_law_X4_entries rfl rfl rfl hdV_X4_entries ⟨Nat.le_of_ble_eq_true rfl, Nat.le_of_ble_eq_true rfl⟩) (sPVz hJ.swap.left (ci := 4) (q0 := 0) rfl rfl) rfl rfl hl.1 rfl (lv_room (Nat.le_of_ble_eq_true rfl)) dL_law_409 ⟨(by show C + 0 ≤ 601024; omega), (by show S + 0 ≤ 7293034; omega)⟩) hJ hS (fun v9 H locs hv hJ hS => ?_)
  refine lv_icmp_eq (tgt := 1343) hx hb dL_law_412 (by decide) (fun c1 => ?_) (fun c1 => ?_)
  ·
    refine W.widen (k := C + 6) (n := S + 36) (by omega) (by omega) ?_
    exact hN κ τ f _ n H locs ls hJ hS hR (lv_sub hl [0, 1, 2, 3, 4] rfl)
  ·
    exact absurd (by rw [hv]; exact rel_e0 hR) c1
set_option maxRecDepth 100000 in
set_option maxHeartbeats 4000000 in
theorem lc_sine (hflags : l.flags = flags0) (hL : L ≤ 3072) (C0 : lw_At p s m meth c b L xs) (hi : i + 6 ≤ L) (hC : C ≤ 10000) (hSl : S ≤ 100000) (hN : lgN p l e s m below meth c b D ad md i C S) (hJ : sJ D s.heap.size (OW D ad κ f ++ MW D md rf τ) s H) (hS : va_S (fun q : Nat => s.heap.size ≤ q) s.heap H locs) (hR : sRel κ τ n) (hl : lv_has ls 7 [(0, .ref b), (1, .ref (ad 0)), (2, .ref (md 0)), (3, .ref (ad 68)), (4, .int (nI i))]) : W p l e room_1 s m #[Value.ref b] below meth c H locs C S (lw_Z below #[Value.ref b] s) (F0 m 417 ls []) := by
  obtain ⟨hx, hb, hr, hml, hown, hts0, hX, hbl, hlk, hgv⟩ := C0
  have hts : ∀ w ∈ wsL_law, w.before #[Value.ref b] s = true := fun w h => hts0 w (wsL_law_in w h)
  have hown : s.vm.findClass RL = some m.cls := hown
  have hbA : ¬ (fun q : Nat => s.heap.size ≤ q) b := Nat.not_le.mpr hbl
  refine lv_aload_n hx hb dL_law_417 rfl (lv_at hl 1 rfl) ?_
  refine l_arg (b := b) (L := L) (i := i) (k := 1) (xs := xs) hx hb hX hbl hbA hS hl 0 4 rfl rfl (by decide +kernel) (by omega) (by omega) dL_law_418 dL_law_419 dL_law_421 dL_law_422 dL_law_423 ?_
  have hJ3 : sJ D s.heap.size (CW D ad κ) s H := sJ.left (b := [(ad 68, .inl (D.2.2.2.1, 1, .inr (.inl f)))]) hJ.left
  refine s_ciV (As := [.int (xs (i + 1))]) (rest := []) ⟨hx, hb, hml, hown, hts⟩ (c_X3_sine l D s.heap.size ad κ (xs (i + 1))) (cwV 1 hts gL_law_X3_sine rfl rfl rfl hdV_X3_sine ⟨Nat.le_of_ble_eq_true rfl, Nat.le_of_ble_eq_true rfl⟩) (sPV hJ3 (ci := 3) (q0 := 0) rfl rfl) rfl hl.1 rfl (Nat.le_of_ble_eq_true rfl) dL_law_424 ⟨(by show C ≤ 601024; omega), (by show S ≤ 7293034; omega)⟩ ?_
  refine lv_aload_n hx hb dL_law_427 rfl (lv_at hl 2 rfl) ?_
  refine l_arg (b := b) (L := L) (i := i) (k := 1) (xs := xs) hx hb hX hbl hbA hS hl 0 4 rfl rfl (by decide +kernel) (by omega) (by omega) dL_law_428 dL_law_429 dL_law_431 dL_law_432 dL_law_433 ?_
  refine l_model (va_runV (As := [.int (xs (i + 1))]) (rest := [.int (sn (xs (i + 1)))]) ⟨hx, hb, hml, hown, hts⟩ (c_X4_sine l D s.heap.size md rf τ H.size (xs (i + 1))) (cwV 1 hts gL_law_X4_sine rfl rfl rfl hdV_X4_sine ⟨Nat.le_of_ble_eq_true rfl, Nat.le_of_ble_eq_true rfl⟩) (sPVz hJ.swap.left (ci := 4) (q0 := 0) rfl rfl) rfl rfl hl.1 rfl (lv_room (Nat.le_of_ble_eq_true rfl)) dL_law_434 ⟨(by show C + 0 ≤ 601024; omega), (by show S + 0 ≤ 7293034; omega)⟩) hJ hS (fun v9 H locs hv hJ hS => ?_)
  refine lv_icmp_eq (tgt := 1343) hx hb dL_law_437 (by decide) (fun c1 => ?_) (fun c1 => ?_)
  ·
    refine W.widen (k := C + 6) (n := S + 36) (by omega) (by omega) ?_
    exact hN κ τ f _ n H locs ls hJ hS hR (lv_sub hl [0, 1, 2, 3, 4] rfl)
  ·
    exact absurd (by rw [hv]) c1
set_option maxRecDepth 100000 in
set_option maxHeartbeats 4000000 in
theorem lc_speed (hflags : l.flags = flags0) (hL : L ≤ 3072) (C0 : lw_At p s m meth c b L xs) (hi : i + 6 ≤ L) (hC : C ≤ 10000) (hSl : S ≤ 100000) (hN : lgN p l e s m below meth c b D ad md i C S) (hJ : sJ D s.heap.size (OW D ad κ f ++ MW D md rf τ) s H) (hS : va_S (fun q : Nat => s.heap.size ≤ q) s.heap H locs) (hR : sRel κ τ n) (hl : lv_has ls 7 [(0, .ref b), (1, .ref (ad 0)), (2, .ref (md 0)), (3, .ref (ad 68)), (4, .int (nI i))]) : W p l e room_1 s m #[Value.ref b] below meth c H locs C S (lw_Z below #[Value.ref b] s) (F0 m 442 ls []) := by
  obtain ⟨hx, hb, hr, hml, hown, hts0, hX, hbl, hlk, hgv⟩ := C0
  have hts : ∀ w ∈ wsL_law, w.before #[Value.ref b] s = true := fun w h => hts0 w (wsL_law_in w h)
  have hown : s.vm.findClass RL = some m.cls := hown
  have hbA : ¬ (fun q : Nat => s.heap.size ≤ q) b := Nat.not_le.mpr hbl
  refine lv_aload_n hx hb dL_law_442 rfl (lv_at hl 1 rfl) ?_
  refine l_arg (b := b) (L := L) (i := i) (k := 1) (xs := xs) hx hb hX hbl hbA hS hl 0 4 rfl rfl (by decide +kernel) (by omega) (by omega) dL_law_443 dL_law_444 dL_law_446 dL_law_447 dL_law_448 ?_
  refine lv_aload_n hx hb dL_law_449 rfl (lv_at hl 3 rfl) ?_
  refine l_help (vx_runSX (hh := [(0, 9, 12, 24)]) (As := [.ref (ad 0), .int (xs (i + 1)), .ref (ad 68)]) (rest := []) ⟨hx, hb, hml, hown, hts⟩ (h_speed l hflags D s.heap.size ad κ f H.size (xs (i + 1)) n hR.1.2.1 hR.1.1) (vx_cwSW 3 hts gL_law_L_speed rfl rfl rfl hdS_L_speed ⟨Nat.le_of_ble_eq_true rfl, Nat.le_of_ble_eq_true rfl⟩) (sPSz hJ.left) rfl rfl hl.1 rfl (lv_room (Nat.le_of_ble_eq_true rfl)) dL_law_450 ⟨(by show C + 1 ≤ 601024; omega), (by show S + 6 ≤ 7293034; omega)⟩) hJ hS (fun k9 g H locs hk hg hJ hS => ?_)
  refine lv_istore (lv' := [(5, .int k9), (0, .ref b), (1, .ref (ad 0)), (2, .ref (md 0)), (3, .ref (ad 68)), (4, .int (nI i))]) hx hb dL_law_453 hl (by decide) rfl (fun ls hl => ?_)
  refine lv_aload_n hx hb dL_law_455 rfl (lv_at hl 3 rfl) ?_
  refine l_arg (b := b) (L := L) (i := i) (k := 1) (xs := xs) hx hb hX hbl hbA hS hl 1 5 rfl rfl (by decide +kernel) (by omega) (by omega) dL_law_456 dL_law_457 dL_law_459 dL_law_460 dL_law_461 ?_
  refine l_model (va_runV (As := [.int (xs (i + 1))]) (rest := []) ⟨hx, hb, hml, hown, hts⟩ (c_X4_speed l D s.heap.size md rf τ H.size (xs (i + 1)) n hR.1.2.2.1 hR.1.1) (cwV 1 hts gL_law_X4_speed rfl rfl rfl hdV_X4_speed ⟨Nat.le_of_ble_eq_true rfl, Nat.le_of_ble_eq_true rfl⟩) (sPVz hJ.swap.left (ci := 4) (q0 := 0) rfl rfl) rfl rfl hl.1 rfl (lv_room (Nat.le_of_ble_eq_true rfl)) dL_law_462 ⟨(by show C + 1 + 0 ≤ 601024; omega), (by show S + 6 + 0 ≤ 7293034; omega)⟩) hJ hS (fun v9 H locs hv hJ hS => ?_)
  refine lv_istore (lv' := [(6, .int v9), (5, .int k9), (0, .ref b), (1, .ref (ad 0)), (2, .ref (md 0)), (3, .ref (ad 68)), (4, .int (nI i))]) hx hb dL_law_465 hl (by decide) rfl (fun ls hl => ?_)
  refine lv_aload_n hx hb dL_law_467 rfl (lv_at hl 4 rfl) ?_
  refine s_ciV (As := []) (rest := []) ⟨hx, hb, hml, hown, hts⟩ (c_X4_thrown l D s.heap.size md _ _) (cwV 0 hts gL_law_X4_thrown rfl rfl rfl hdV_X4_thrown ⟨Nat.le_of_ble_eq_true rfl, Nat.le_of_ble_eq_true rfl⟩) (sPV hJ.swap.left (ci := 4) (q0 := 0) rfl rfl) rfl hl.1 rfl (Nat.le_of_ble_eq_true rfl) dL_law_468 ⟨(by show C + 1 ≤ 601024; omega), (by show S + 6 ≤ 7293034; omega)⟩ ?_
  refine lv_iload hx hb dL_law_471 (lv_at hl 1 rfl) ?_
  refine lv_icmp_eq (tgt := 478) hx hb dL_law_473 (by decide) (fun c1 => ?_) (fun c1 => ?_)
  ·
    refine lv_iload hx hb dL_law_478 (lv_at hl 1 rfl) ?_
    refine lv_if_ne (tgt := 495) hx hb dL_law_480 (by decide) (fun c2 => ?_) (fun c2 => ?_)
    ·
      refine lv_goto (tgt := 1343) hx hb dL_law_495 (by decide) ?_
      refine W.widen (k := C + 6) (n := S + 36) (by omega) (by omega) ?_
      exact hN κ τ g _ n H locs ls hJ hS hR (lv_sub hl [2, 3, 4, 5, 6] rfl)
    ·
      have hok := rE_z (hk.symm.trans c2)
      refine lv_aload_n hx hb dL_law_483 rfl (lv_at hl 5 rfl) ?_
      refine lv_iconst (v := 0) hx hb dL_law_484 (by decide +kernel) ?_
      refine l_out hx hb hJ dL_law_485 ?_
      refine lv_iload hx hb dL_law_486 (lv_at hl 0 rfl) ?_
      refine lv_i2l hx hb dL_law_488 rfl ?_
      refine W.lcmp hx hb dL_law_489 ?_
      refine lv_if_eq (tgt := 495) hx hb dL_law_490 (by decide) (fun c3 => ?_) (fun c3 => ?_)
      ·
        refine lv_goto (tgt := 1343) hx hb dL_law_495 (by decide) ?_
        refine W.widen (k := C + 6) (n := S + 36) (by omega) (by omega) ?_
        exact hN κ τ g _ n H locs ls hJ hS hR (lv_sub hl [2, 3, 4, 5, 6] rfl)
      ·
        exact absurd (cmp_0 (by rw [hg hok, hv, if_pos (by rw [← rel_e0 hR]; exact hok), a_speed hR hok])) c3
  ·
    exact absurd (by rw [hk]; exact rE_cg (by rw [rel_e0 hR])) c1
set_option maxRecDepth 100000 in
set_option maxHeartbeats 4000000 in
theorem lc_strength (hflags : l.flags = flags0) (hL : L ≤ 3072) (C0 : lw_At p s m meth c b L xs) (hi : i + 6 ≤ L) (hC : C ≤ 10000) (hSl : S ≤ 100000) (hN : lgN p l e s m below meth c b D ad md i C S) (hJ : sJ D s.heap.size (OW D ad κ f ++ MW D md rf τ) s H) (hS : va_S (fun q : Nat => s.heap.size ≤ q) s.heap H locs) (hR : sRel κ τ n) (hl : lv_has ls 7 [(0, .ref b), (1, .ref (ad 0)), (2, .ref (md 0)), (3, .ref (ad 68)), (4, .int (nI i))]) : W p l e room_1 s m #[Value.ref b] below meth c H locs C S (lw_Z below #[Value.ref b] s) (F0 m 498 ls []) := by
  obtain ⟨hx, hb, hr, hml, hown, hts0, hX, hbl, hlk, hgv⟩ := C0
  have hts : ∀ w ∈ wsL_law, w.before #[Value.ref b] s = true := fun w h => hts0 w (wsL_law_in w h)
  have hown : s.vm.findClass RL = some m.cls := hown
  have hbA : ¬ (fun q : Nat => s.heap.size ≤ q) b := Nat.not_le.mpr hbl
  refine lv_aload_n hx hb dL_law_498 rfl (lv_at hl 1 rfl) ?_
  refine l_arg (b := b) (L := L) (i := i) (k := 1) (xs := xs) hx hb hX hbl hbA hS hl 0 4 rfl rfl (by decide +kernel) (by omega) (by omega) dL_law_499 dL_law_500 dL_law_502 dL_law_503 dL_law_504 ?_
  refine lv_aload_n hx hb dL_law_505 rfl (lv_at hl 3 rfl) ?_
  refine l_help (vx_runSX (hh := [(0, 9, 12, 24)]) (As := [.ref (ad 0), .int (xs (i + 1)), .ref (ad 68)]) (rest := []) ⟨hx, hb, hml, hown, hts⟩ (h_strength l hflags D s.heap.size ad κ f H.size (xs (i + 1)) n hR.1.2.1 hR.1.1) (vx_cwSW 3 hts gL_law_L_strength rfl rfl rfl hdS_L_strength ⟨Nat.le_of_ble_eq_true rfl, Nat.le_of_ble_eq_true rfl⟩) (sPSz hJ.left) rfl rfl hl.1 rfl (lv_room (Nat.le_of_ble_eq_true rfl)) dL_law_506 ⟨(by show C + 1 ≤ 601024; omega), (by show S + 6 ≤ 7293034; omega)⟩) hJ hS (fun k9 g H locs hk hg hJ hS => ?_)
  refine lv_istore (lv' := [(5, .int k9), (0, .ref b), (1, .ref (ad 0)), (2, .ref (md 0)), (3, .ref (ad 68)), (4, .int (nI i))]) hx hb dL_law_509 hl (by decide) rfl (fun ls hl => ?_)
  refine lv_aload_n hx hb dL_law_511 rfl (lv_at hl 3 rfl) ?_
  refine l_arg (b := b) (L := L) (i := i) (k := 1) (xs := xs) hx hb hX hbl hbA hS hl 1 5 rfl rfl (by decide +kernel) (by omega) (by omega) dL_law_512 dL_law_513 dL_law_515 dL_law_516 dL_law_517 ?_
  refine l_model (va_runV (As := [.int (xs (i + 1))]) (rest := []) ⟨hx, hb, hml, hown, hts⟩ (c_X4_strength l D s.heap.size md rf τ H.size (xs (i + 1)) n hR.1.2.2.1 hR.1.1 (rel_tOk hR)) (cwV 1 hts gL_law_X4_strength rfl rfl rfl hdV_X4_strength ⟨Nat.le_of_ble_eq_true rfl, Nat.le_of_ble_eq_true rfl⟩) (sPVz hJ.swap.left (ci := 4) (q0 := 0) rfl rfl) rfl rfl hl.1 rfl (lv_room (Nat.le_of_ble_eq_true rfl)) dL_law_518 ⟨(by show C + 1 + 0 ≤ 601024; omega), (by show S + 6 + 0 ≤ 7293034; omega)⟩) hJ hS (fun v9 H locs hv hJ hS => ?_)
  refine lv_istore (lv' := [(6, .int v9), (5, .int k9), (0, .ref b), (1, .ref (ad 0)), (2, .ref (md 0)), (3, .ref (ad 68)), (4, .int (nI i))]) hx hb dL_law_521 hl (by decide) rfl (fun ls hl => ?_)
  refine lv_aload_n hx hb dL_law_523 rfl (lv_at hl 4 rfl) ?_
  refine s_ciV (As := []) (rest := []) ⟨hx, hb, hml, hown, hts⟩ (c_X4_thrown l D s.heap.size md _ _) (cwV 0 hts gL_law_X4_thrown rfl rfl rfl hdV_X4_thrown ⟨Nat.le_of_ble_eq_true rfl, Nat.le_of_ble_eq_true rfl⟩) (sPV hJ.swap.left (ci := 4) (q0 := 0) rfl rfl) rfl hl.1 rfl (Nat.le_of_ble_eq_true rfl) dL_law_524 ⟨(by show C + 1 ≤ 601024; omega), (by show S + 6 ≤ 7293034; omega)⟩ ?_
  refine lv_iload hx hb dL_law_527 (lv_at hl 1 rfl) ?_
  refine lv_icmp_eq (tgt := 534) hx hb dL_law_529 (by decide) (fun c1 => ?_) (fun c1 => ?_)
  ·
    refine lv_iload hx hb dL_law_534 (lv_at hl 1 rfl) ?_
    refine lv_if_ne (tgt := 551) hx hb dL_law_536 (by decide) (fun c2 => ?_) (fun c2 => ?_)
    ·
      refine lv_goto (tgt := 1343) hx hb dL_law_551 (by decide) ?_
      refine W.widen (k := C + 6) (n := S + 36) (by omega) (by omega) ?_
      exact hN κ τ g _ n H locs ls hJ hS hR (lv_sub hl [2, 3, 4, 5, 6] rfl)
    ·
      have hok := rE_z (hk.symm.trans c2)
      refine lv_aload_n hx hb dL_law_539 rfl (lv_at hl 5 rfl) ?_
      refine lv_iconst (v := 0) hx hb dL_law_540 (by decide +kernel) ?_
      refine l_out hx hb hJ dL_law_541 ?_
      refine lv_iload hx hb dL_law_542 (lv_at hl 0 rfl) ?_
      refine lv_i2l hx hb dL_law_544 rfl ?_
      refine W.lcmp hx hb dL_law_545 ?_
      refine lv_if_eq (tgt := 551) hx hb dL_law_546 (by decide) (fun c3 => ?_) (fun c3 => ?_)
      ·
        refine lv_goto (tgt := 1343) hx hb dL_law_551 (by decide) ?_
        refine W.widen (k := C + 6) (n := S + 36) (by omega) (by omega) ?_
        exact hN κ τ g _ n H locs ls hJ hS hR (lv_sub hl [2, 3, 4, 5, 6] rfl)
      ·
        exact absurd (cmp_0 (by rw [hg hok, hv, if_pos (by rw [← rel_e0 hR]; exact hok), a_strength hR hok])) c3
  ·
    exact absurd (by rw [hk]; exact rE_cg (by rw [rel_e0 hR])) c1
set_option maxRecDepth 100000 in
set_option maxHeartbeats 4000000 in
theorem lc_angle (hflags : l.flags = flags0) (hL : L ≤ 3072) (C0 : lw_At p s m meth c b L xs) (hi : i + 6 ≤ L) (hC : C ≤ 10000) (hSl : S ≤ 100000) (hN : lgN p l e s m below meth c b D ad md i C S) (hJ : sJ D s.heap.size (OW D ad κ f ++ MW D md rf τ) s H) (hS : va_S (fun q : Nat => s.heap.size ≤ q) s.heap H locs) (hR : sRel κ τ n) (hl : lv_has ls 7 [(0, .ref b), (1, .ref (ad 0)), (2, .ref (md 0)), (3, .ref (ad 68)), (4, .int (nI i))]) : W p l e room_1 s m #[Value.ref b] below meth c H locs C S (lw_Z below #[Value.ref b] s) (F0 m 554 ls []) := by
  obtain ⟨hx, hb, hr, hml, hown, hts0, hX, hbl, hlk, hgv⟩ := C0
  have hts : ∀ w ∈ wsL_law, w.before #[Value.ref b] s = true := fun w h => hts0 w (wsL_law_in w h)
  have hown : s.vm.findClass RL = some m.cls := hown
  have hbA : ¬ (fun q : Nat => s.heap.size ≤ q) b := Nat.not_le.mpr hbl
  refine lv_aload_n hx hb dL_law_554 rfl (lv_at hl 1 rfl) ?_
  refine l_arg (b := b) (L := L) (i := i) (k := 1) (xs := xs) hx hb hX hbl hbA hS hl 0 4 rfl rfl (by decide +kernel) (by omega) (by omega) dL_law_555 dL_law_556 dL_law_558 dL_law_559 dL_law_560 ?_
  refine lv_aload_n hx hb dL_law_561 rfl (lv_at hl 3 rfl) ?_
  refine l_help (vx_runSX (hh := [(0, 9, 12, 24)]) (As := [.ref (ad 0), .int (xs (i + 1)), .ref (ad 68)]) (rest := []) ⟨hx, hb, hml, hown, hts⟩ (h_angle l hflags D s.heap.size ad κ f H.size (xs (i + 1)) n hR.1.2.1 hR.1.1) (vx_cwSW 3 hts gL_law_L_angle rfl rfl rfl hdS_L_angle ⟨Nat.le_of_ble_eq_true rfl, Nat.le_of_ble_eq_true rfl⟩) (sPSz hJ.left) rfl rfl hl.1 rfl (lv_room (Nat.le_of_ble_eq_true rfl)) dL_law_562 ⟨(by show C + 1 ≤ 601024; omega), (by show S + 6 ≤ 7293034; omega)⟩) hJ hS (fun k9 g H locs hk hg hJ hS => ?_)
  refine lv_istore (lv' := [(5, .int k9), (0, .ref b), (1, .ref (ad 0)), (2, .ref (md 0)), (3, .ref (ad 68)), (4, .int (nI i))]) hx hb dL_law_565 hl (by decide) rfl (fun ls hl => ?_)
  refine lv_aload_n hx hb dL_law_567 rfl (lv_at hl 3 rfl) ?_
  refine l_arg (b := b) (L := L) (i := i) (k := 1) (xs := xs) hx hb hX hbl hbA hS hl 1 5 rfl rfl (by decide +kernel) (by omega) (by omega) dL_law_568 dL_law_569 dL_law_571 dL_law_572 dL_law_573 ?_
  refine l_model (va_runV (As := [.int (xs (i + 1))]) (rest := []) ⟨hx, hb, hml, hown, hts⟩ (c_X4_angle l D s.heap.size md rf τ H.size (xs (i + 1)) n hR.1.2.2.1 hR.1.1) (cwV 1 hts gL_law_X4_angle rfl rfl rfl hdV_X4_angle ⟨Nat.le_of_ble_eq_true rfl, Nat.le_of_ble_eq_true rfl⟩) (sPVz hJ.swap.left (ci := 4) (q0 := 0) rfl rfl) rfl rfl hl.1 rfl (lv_room (Nat.le_of_ble_eq_true rfl)) dL_law_574 ⟨(by show C + 1 + 0 ≤ 601024; omega), (by show S + 6 + 0 ≤ 7293034; omega)⟩) hJ hS (fun v9 H locs hv hJ hS => ?_)
  refine lv_istore (lv' := [(6, .int v9), (5, .int k9), (0, .ref b), (1, .ref (ad 0)), (2, .ref (md 0)), (3, .ref (ad 68)), (4, .int (nI i))]) hx hb dL_law_577 hl (by decide) rfl (fun ls hl => ?_)
  refine lv_aload_n hx hb dL_law_579 rfl (lv_at hl 4 rfl) ?_
  refine s_ciV (As := []) (rest := []) ⟨hx, hb, hml, hown, hts⟩ (c_X4_thrown l D s.heap.size md _ _) (cwV 0 hts gL_law_X4_thrown rfl rfl rfl hdV_X4_thrown ⟨Nat.le_of_ble_eq_true rfl, Nat.le_of_ble_eq_true rfl⟩) (sPV hJ.swap.left (ci := 4) (q0 := 0) rfl rfl) rfl hl.1 rfl (Nat.le_of_ble_eq_true rfl) dL_law_580 ⟨(by show C + 1 ≤ 601024; omega), (by show S + 6 ≤ 7293034; omega)⟩ ?_
  refine lv_iload hx hb dL_law_583 (lv_at hl 1 rfl) ?_
  refine lv_icmp_eq (tgt := 590) hx hb dL_law_585 (by decide) (fun c1 => ?_) (fun c1 => ?_)
  ·
    refine lv_iload hx hb dL_law_590 (lv_at hl 1 rfl) ?_
    refine lv_if_ne (tgt := 607) hx hb dL_law_592 (by decide) (fun c2 => ?_) (fun c2 => ?_)
    ·
      refine lv_goto (tgt := 1343) hx hb dL_law_607 (by decide) ?_
      refine W.widen (k := C + 6) (n := S + 36) (by omega) (by omega) ?_
      exact hN κ τ g _ n H locs ls hJ hS hR (lv_sub hl [2, 3, 4, 5, 6] rfl)
    ·
      have hok := rE_z (hk.symm.trans c2)
      refine lv_aload_n hx hb dL_law_595 rfl (lv_at hl 5 rfl) ?_
      refine lv_iconst (v := 0) hx hb dL_law_596 (by decide +kernel) ?_
      refine l_out hx hb hJ dL_law_597 ?_
      refine lv_iload hx hb dL_law_598 (lv_at hl 0 rfl) ?_
      refine lv_i2l hx hb dL_law_600 rfl ?_
      refine W.lcmp hx hb dL_law_601 ?_
      refine lv_if_eq (tgt := 607) hx hb dL_law_602 (by decide) (fun c3 => ?_) (fun c3 => ?_)
      ·
        refine lv_goto (tgt := 1343) hx hb dL_law_607 (by decide) ?_
        refine W.widen (k := C + 6) (n := S + 36) (by omega) (by omega) ?_
        exact hN κ τ g _ n H locs ls hJ hS hR (lv_sub hl [2, 3, 4, 5, 6] rfl)
      ·
        exact absurd (cmp_0 (by rw [hg hok, hv, if_pos (by rw [← rel_e0 hR]; exact hok), a_angle hR hok])) c3
  ·
    exact absurd (by rw [hk]; exact rE_cg (by rw [rel_e0 hR])) c1
set_option maxRecDepth 100000 in
set_option maxHeartbeats 4000000 in
theorem lc_from (hflags : l.flags = flags0) (hL : L ≤ 3072) (C0 : lw_At p s m meth c b L xs) (hi : i + 6 ≤ L) (hC : C ≤ 10000) (hSl : S ≤ 100000) (hN : lgN p l e s m below meth c b D ad md i C S) (hJ : sJ D s.heap.size (OW D ad κ f ++ MW D md rf τ) s H) (hS : va_S (fun q : Nat => s.heap.size ≤ q) s.heap H locs) (hR : sRel κ τ n) (hl : lv_has ls 7 [(0, .ref b), (1, .ref (ad 0)), (2, .ref (md 0)), (3, .ref (ad 68)), (4, .int (nI i))]) : W p l e room_1 s m #[Value.ref b] below meth c H locs C S (lw_Z below #[Value.ref b] s) (F0 m 610 ls []) := by
  obtain ⟨hx, hb, hr, hml, hown, hts0, hX, hbl, hlk, hgv⟩ := C0
  have hts : ∀ w ∈ wsL_law, w.before #[Value.ref b] s = true := fun w h => hts0 w (wsL_law_in w h)
  have hown : s.vm.findClass RL = some m.cls := hown
  have hbA : ¬ (fun q : Nat => s.heap.size ≤ q) b := Nat.not_le.mpr hbl
  refine lv_aload_n hx hb dL_law_610 rfl (lv_at hl 1 rfl) ?_
  refine l_arg (b := b) (L := L) (i := i) (k := 1) (xs := xs) hx hb hX hbl hbA hS hl 0 4 rfl rfl (by decide +kernel) (by omega) (by omega) dL_law_611 dL_law_612 dL_law_614 dL_law_615 dL_law_616 ?_
  refine lv_aload_n hx hb dL_law_617 rfl (lv_at hl 3 rfl) ?_
  refine l_help (vx_runSX (hh := [(0, 9, 12, 24)]) (As := [.ref (ad 0), .int (xs (i + 1)), .ref (ad 68)]) (rest := []) ⟨hx, hb, hml, hown, hts⟩ (h_from l hflags D s.heap.size ad κ f H.size (xs (i + 1)) n hR.1.2.1 hR.1.1) (vx_cwSW 3 hts gL_law_L_from rfl rfl rfl hdS_L_from ⟨Nat.le_of_ble_eq_true rfl, Nat.le_of_ble_eq_true rfl⟩) (sPSz hJ.left) rfl rfl hl.1 rfl (lv_room (Nat.le_of_ble_eq_true rfl)) dL_law_618 ⟨(by show C + 1 ≤ 601024; omega), (by show S + 6 ≤ 7293034; omega)⟩) hJ hS (fun k9 g H locs hk hg hJ hS => ?_)
  refine lv_istore (lv' := [(5, .int k9), (0, .ref b), (1, .ref (ad 0)), (2, .ref (md 0)), (3, .ref (ad 68)), (4, .int (nI i))]) hx hb dL_law_621 hl (by decide) rfl (fun ls hl => ?_)
  refine lv_aload_n hx hb dL_law_623 rfl (lv_at hl 3 rfl) ?_
  refine l_arg (b := b) (L := L) (i := i) (k := 1) (xs := xs) hx hb hX hbl hbA hS hl 1 5 rfl rfl (by decide +kernel) (by omega) (by omega) dL_law_624 dL_law_625 dL_law_627 dL_law_628 dL_law_629 ?_
  refine l_model (va_runV (As := [.int (xs (i + 1))]) (rest := []) ⟨hx, hb, hml, hown, hts⟩ (c_X4_from l D s.heap.size md rf τ H.size (xs (i + 1)) n hR.1.2.2.1 hR.1.1) (cwV 1 hts gL_law_X4_from rfl rfl rfl hdV_X4_from ⟨Nat.le_of_ble_eq_true rfl, Nat.le_of_ble_eq_true rfl⟩) (sPVz hJ.swap.left (ci := 4) (q0 := 0) rfl rfl) rfl rfl hl.1 rfl (lv_room (Nat.le_of_ble_eq_true rfl)) dL_law_630 ⟨(by show C + 1 + 0 ≤ 601024; omega), (by show S + 6 + 0 ≤ 7293034; omega)⟩) hJ hS (fun v9 H locs hv hJ hS => ?_)
  refine lv_istore (lv' := [(6, .int v9), (5, .int k9), (0, .ref b), (1, .ref (ad 0)), (2, .ref (md 0)), (3, .ref (ad 68)), (4, .int (nI i))]) hx hb dL_law_633 hl (by decide) rfl (fun ls hl => ?_)
  refine lv_aload_n hx hb dL_law_635 rfl (lv_at hl 4 rfl) ?_
  refine s_ciV (As := []) (rest := []) ⟨hx, hb, hml, hown, hts⟩ (c_X4_thrown l D s.heap.size md _ _) (cwV 0 hts gL_law_X4_thrown rfl rfl rfl hdV_X4_thrown ⟨Nat.le_of_ble_eq_true rfl, Nat.le_of_ble_eq_true rfl⟩) (sPV hJ.swap.left (ci := 4) (q0 := 0) rfl rfl) rfl hl.1 rfl (Nat.le_of_ble_eq_true rfl) dL_law_636 ⟨(by show C + 1 ≤ 601024; omega), (by show S + 6 ≤ 7293034; omega)⟩ ?_
  refine lv_iload hx hb dL_law_639 (lv_at hl 1 rfl) ?_
  refine lv_icmp_eq (tgt := 646) hx hb dL_law_641 (by decide) (fun c1 => ?_) (fun c1 => ?_)
  ·
    refine lv_iload hx hb dL_law_646 (lv_at hl 1 rfl) ?_
    refine lv_if_ne (tgt := 663) hx hb dL_law_648 (by decide) (fun c2 => ?_) (fun c2 => ?_)
    ·
      refine lv_goto (tgt := 1343) hx hb dL_law_663 (by decide) ?_
      refine W.widen (k := C + 6) (n := S + 36) (by omega) (by omega) ?_
      exact hN κ τ g _ n H locs ls hJ hS hR (lv_sub hl [2, 3, 4, 5, 6] rfl)
    ·
      have hok := rE_z (hk.symm.trans c2)
      refine lv_aload_n hx hb dL_law_651 rfl (lv_at hl 5 rfl) ?_
      refine lv_iconst (v := 0) hx hb dL_law_652 (by decide +kernel) ?_
      refine l_out hx hb hJ dL_law_653 ?_
      refine lv_iload hx hb dL_law_654 (lv_at hl 0 rfl) ?_
      refine lv_i2l hx hb dL_law_656 rfl ?_
      refine W.lcmp hx hb dL_law_657 ?_
      refine lv_if_eq (tgt := 663) hx hb dL_law_658 (by decide) (fun c3 => ?_) (fun c3 => ?_)
      ·
        refine lv_goto (tgt := 1343) hx hb dL_law_663 (by decide) ?_
        refine W.widen (k := C + 6) (n := S + 36) (by omega) (by omega) ?_
        exact hN κ τ g _ n H locs ls hJ hS hR (lv_sub hl [2, 3, 4, 5, 6] rfl)
      ·
        exact absurd (cmp_0 (by rw [hg hok, hv, if_pos (by rw [← rel_e0 hR]; exact hok), a_from hR hok])) c3
  ·
    exact absurd (by rw [hk]; exact rE_cg (by rw [rel_e0 hR])) c1
set_option maxRecDepth 100000 in
set_option maxHeartbeats 4000000 in
theorem lc_side (hflags : l.flags = flags0) (hL : L ≤ 3072) (C0 : lw_At p s m meth c b L xs) (hi : i + 6 ≤ L) (hC : C ≤ 10000) (hSl : S ≤ 100000) (hN : lgN p l e s m below meth c b D ad md i C S) (hJ : sJ D s.heap.size (OW D ad κ f ++ MW D md rf τ) s H) (hS : va_S (fun q : Nat => s.heap.size ≤ q) s.heap H locs) (hR : sRel κ τ n) (hl : lv_has ls 7 [(0, .ref b), (1, .ref (ad 0)), (2, .ref (md 0)), (3, .ref (ad 68)), (4, .int (nI i))]) : W p l e room_1 s m #[Value.ref b] below meth c H locs C S (lw_Z below #[Value.ref b] s) (F0 m 666 ls []) := by
  obtain ⟨hx, hb, hr, hml, hown, hts0, hX, hbl, hlk, hgv⟩ := C0
  have hts : ∀ w ∈ wsL_law, w.before #[Value.ref b] s = true := fun w h => hts0 w (wsL_law_in w h)
  have hown : s.vm.findClass RL = some m.cls := hown
  have hbA : ¬ (fun q : Nat => s.heap.size ≤ q) b := Nat.not_le.mpr hbl
  refine lv_aload_n hx hb dL_law_666 rfl (lv_at hl 1 rfl) ?_
  refine l_arg (b := b) (L := L) (i := i) (k := 1) (xs := xs) hx hb hX hbl hbA hS hl 0 4 rfl rfl (by decide +kernel) (by omega) (by omega) dL_law_667 dL_law_668 dL_law_670 dL_law_671 dL_law_672 ?_
  refine lv_aload_n hx hb dL_law_673 rfl (lv_at hl 3 rfl) ?_
  refine l_help (vx_runSX (hh := [(0, 9, 12, 24)]) (As := [.ref (ad 0), .int (xs (i + 1)), .ref (ad 68)]) (rest := []) ⟨hx, hb, hml, hown, hts⟩ (h_side l hflags D s.heap.size ad κ f H.size (xs (i + 1)) n hR.1.2.1 hR.1.1) (vx_cwSW 3 hts gL_law_L_side rfl rfl rfl hdS_L_side ⟨Nat.le_of_ble_eq_true rfl, Nat.le_of_ble_eq_true rfl⟩) (sPSz hJ.left) rfl rfl hl.1 rfl (lv_room (Nat.le_of_ble_eq_true rfl)) dL_law_674 ⟨(by show C + 1 ≤ 601024; omega), (by show S + 6 ≤ 7293034; omega)⟩) hJ hS (fun k9 g H locs hk hg hJ hS => ?_)
  refine lv_istore (lv' := [(5, .int k9), (0, .ref b), (1, .ref (ad 0)), (2, .ref (md 0)), (3, .ref (ad 68)), (4, .int (nI i))]) hx hb dL_law_677 hl (by decide) rfl (fun ls hl => ?_)
  refine lv_aload_n hx hb dL_law_679 rfl (lv_at hl 3 rfl) ?_
  refine l_arg (b := b) (L := L) (i := i) (k := 1) (xs := xs) hx hb hX hbl hbA hS hl 1 5 rfl rfl (by decide +kernel) (by omega) (by omega) dL_law_680 dL_law_681 dL_law_683 dL_law_684 dL_law_685 ?_
  refine l_model (va_runV (As := [.int (xs (i + 1))]) (rest := []) ⟨hx, hb, hml, hown, hts⟩ (c_X4_side l D s.heap.size md rf τ H.size (xs (i + 1)) n hR.1.2.2.1 hR.1.1) (cwV 1 hts gL_law_X4_side rfl rfl rfl hdV_X4_side ⟨Nat.le_of_ble_eq_true rfl, Nat.le_of_ble_eq_true rfl⟩) (sPVz hJ.swap.left (ci := 4) (q0 := 0) rfl rfl) rfl rfl hl.1 rfl (lv_room (Nat.le_of_ble_eq_true rfl)) dL_law_686 ⟨(by show C + 1 + 0 ≤ 601024; omega), (by show S + 6 + 0 ≤ 7293034; omega)⟩) hJ hS (fun v9 H locs hv hJ hS => ?_)
  refine lv_istore (lv' := [(6, .int v9), (5, .int k9), (0, .ref b), (1, .ref (ad 0)), (2, .ref (md 0)), (3, .ref (ad 68)), (4, .int (nI i))]) hx hb dL_law_689 hl (by decide) rfl (fun ls hl => ?_)
  refine lv_aload_n hx hb dL_law_691 rfl (lv_at hl 4 rfl) ?_
  refine s_ciV (As := []) (rest := []) ⟨hx, hb, hml, hown, hts⟩ (c_X4_thrown l D s.heap.size md _ _) (cwV 0 hts gL_law_X4_thrown rfl rfl rfl hdV_X4_thrown ⟨Nat.le_of_ble_eq_true rfl, Nat.le_of_ble_eq_true rfl⟩) (sPV hJ.swap.left (ci := 4) (q0 := 0) rfl rfl) rfl hl.1 rfl (Nat.le_of_ble_eq_true rfl) dL_law_692 ⟨(by show C + 1 ≤ 601024; omega), (by show S + 6 ≤ 7293034; omega)⟩ ?_
  refine lv_iload hx hb dL_law_695 (lv_at hl 1 rfl) ?_
  refine lv_icmp_eq (tgt := 702) hx hb dL_law_697 (by decide) (fun c1 => ?_) (fun c1 => ?_)
  ·
    refine lv_iload hx hb dL_law_702 (lv_at hl 1 rfl) ?_
    refine lv_if_ne (tgt := 719) hx hb dL_law_704 (by decide) (fun c2 => ?_) (fun c2 => ?_)
    ·
      refine lv_goto (tgt := 1343) hx hb dL_law_719 (by decide) ?_
      refine W.widen (k := C + 6) (n := S + 36) (by omega) (by omega) ?_
      exact hN κ τ g _ n H locs ls hJ hS hR (lv_sub hl [2, 3, 4, 5, 6] rfl)
    ·
      have hok := rE_z (hk.symm.trans c2)
      refine lv_aload_n hx hb dL_law_707 rfl (lv_at hl 5 rfl) ?_
      refine lv_iconst (v := 0) hx hb dL_law_708 (by decide +kernel) ?_
      refine l_out hx hb hJ dL_law_709 ?_
      refine lv_iload hx hb dL_law_710 (lv_at hl 0 rfl) ?_
      refine lv_i2l hx hb dL_law_712 rfl ?_
      refine W.lcmp hx hb dL_law_713 ?_
      refine lv_if_eq (tgt := 719) hx hb dL_law_714 (by decide) (fun c3 => ?_) (fun c3 => ?_)
      ·
        refine lv_goto (tgt := 1343) hx hb dL_law_719 (by decide) ?_
        refine W.widen (k := C + 6) (n := S + 36) (by omega) (by omega) ?_
        exact hN κ τ g _ n H locs ls hJ hS hR (lv_sub hl [2, 3, 4, 5, 6] rfl)
      ·
        exact absurd (cmp_0 (by rw [hg hok, hv, if_pos (by rw [← rel_e0 hR]; exact hok), a_side hR hok])) c3
  ·
    exact absurd (by rw [hk]; exact rE_cg (by rw [rel_e0 hR])) c1
set_option maxRecDepth 100000 in
set_option maxHeartbeats 4000000 in
theorem lc_best (hflags : l.flags = flags0) (hL : L ≤ 3072) (C0 : lw_At p s m meth c b L xs) (hi : i + 6 ≤ L) (hC : C ≤ 10000) (hSl : S ≤ 100000) (hN : lgN p l e s m below meth c b D ad md i C S) (hJ : sJ D s.heap.size (OW D ad κ f ++ MW D md rf τ) s H) (hS : va_S (fun q : Nat => s.heap.size ≤ q) s.heap H locs) (hR : sRel κ τ n) (hl : lv_has ls 7 [(0, .ref b), (1, .ref (ad 0)), (2, .ref (md 0)), (3, .ref (ad 68)), (4, .int (nI i))]) : W p l e room_1 s m #[Value.ref b] below meth c H locs C S (lw_Z below #[Value.ref b] s) (F0 m 722 ls []) := by
  obtain ⟨hx, hb, hr, hml, hown, hts0, hX, hbl, hlk, hgv⟩ := C0
  have hts : ∀ w ∈ wsL_law, w.before #[Value.ref b] s = true := fun w h => hts0 w (wsL_law_in w h)
  have hown : s.vm.findClass RL = some m.cls := hown
  have hbA : ¬ (fun q : Nat => s.heap.size ≤ q) b := Nat.not_le.mpr hbl
  refine lv_aload_n hx hb dL_law_722 rfl (lv_at hl 1 rfl) ?_
  refine l_arg (b := b) (L := L) (i := i) (k := 1) (xs := xs) hx hb hX hbl hbA hS hl 0 4 rfl rfl (by decide +kernel) (by omega) (by omega) dL_law_723 dL_law_724 dL_law_726 dL_law_727 dL_law_728 ?_
  refine l_arg (b := b) (L := L) (i := i) (k := 2) (xs := xs) hx hb hX hbl hbA hS hl 0 4 rfl rfl (by decide +kernel) (by omega) (by omega) dL_law_729 dL_law_730 dL_law_732 dL_law_733 dL_law_734 ?_
  refine lv_aload_n hx hb dL_law_735 rfl (lv_at hl 3 rfl) ?_
  refine l_help (vx_runSX (hh := [(0, 10, 13, 24)]) (As := [.ref (ad 0), .int (xs (i + 1)), .int (xs (i + 2)), .ref (ad 68)]) (rest := []) ⟨hx, hb, hml, hown, hts⟩ (h_best l hflags D s.heap.size ad κ f H.size (xs (i + 1)) (xs (i + 2))) (vx_cwSW 4 hts gL_law_L_best rfl rfl rfl hdS_L_best ⟨Nat.le_of_ble_eq_true rfl, Nat.le_of_ble_eq_true rfl⟩) (sPSz hJ.left) rfl rfl hl.1 rfl (lv_room (Nat.le_of_ble_eq_true rfl)) dL_law_736 ⟨(by show C + 1 ≤ 601024; omega), (by show S + 6 ≤ 7293034; omega)⟩) hJ hS (fun k9 g H locs hk hg hJ hS => ?_)
  refine lv_istore (lv' := [(5, .int k9), (0, .ref b), (1, .ref (ad 0)), (2, .ref (md 0)), (3, .ref (ad 68)), (4, .int (nI i))]) hx hb dL_law_739 hl (by decide) rfl (fun ls hl => ?_)
  refine lv_aload_n hx hb dL_law_741 rfl (lv_at hl 3 rfl) ?_
  refine l_arg (b := b) (L := L) (i := i) (k := 1) (xs := xs) hx hb hX hbl hbA hS hl 1 5 rfl rfl (by decide +kernel) (by omega) (by omega) dL_law_742 dL_law_743 dL_law_745 dL_law_746 dL_law_747 ?_
  refine l_arg (b := b) (L := L) (i := i) (k := 2) (xs := xs) hx hb hX hbl hbA hS hl 1 5 rfl rfl (by decide +kernel) (by omega) (by omega) dL_law_748 dL_law_749 dL_law_751 dL_law_752 dL_law_753 ?_
  refine l_model (va_runV (As := [.int (xs (i + 1)), .int (xs (i + 2))]) (rest := []) ⟨hx, hb, hml, hown, hts⟩ (c_X4_best l D s.heap.size md rf τ H.size (xs (i + 1)) (xs (i + 2)) n hR.1.2.2.1 hR.1.1 (rel_tOk hR)) (cwV 2 hts gL_law_X4_best rfl rfl rfl hdV_X4_best ⟨Nat.le_of_ble_eq_true rfl, Nat.le_of_ble_eq_true rfl⟩) (sPVz hJ.swap.left (ci := 4) (q0 := 0) rfl rfl) rfl rfl hl.1 rfl (lv_room (Nat.le_of_ble_eq_true rfl)) dL_law_754 ⟨(by show C + 1 + 0 ≤ 601024; omega), (by show S + 6 + 0 ≤ 7293034; omega)⟩) hJ hS (fun v9 H locs hv hJ hS => ?_)
  refine lv_istore (lv' := [(6, .int v9), (5, .int k9), (0, .ref b), (1, .ref (ad 0)), (2, .ref (md 0)), (3, .ref (ad 68)), (4, .int (nI i))]) hx hb dL_law_757 hl (by decide) rfl (fun ls hl => ?_)
  refine lv_aload_n hx hb dL_law_759 rfl (lv_at hl 4 rfl) ?_
  refine s_ciV (As := []) (rest := []) ⟨hx, hb, hml, hown, hts⟩ (c_X4_thrown l D s.heap.size md _ _) (cwV 0 hts gL_law_X4_thrown rfl rfl rfl hdV_X4_thrown ⟨Nat.le_of_ble_eq_true rfl, Nat.le_of_ble_eq_true rfl⟩) (sPV hJ.swap.left (ci := 4) (q0 := 0) rfl rfl) rfl hl.1 rfl (Nat.le_of_ble_eq_true rfl) dL_law_760 ⟨(by show C + 1 ≤ 601024; omega), (by show S + 6 ≤ 7293034; omega)⟩ ?_
  refine lv_iload hx hb dL_law_763 (lv_at hl 1 rfl) ?_
  refine lv_icmp_eq (tgt := 770) hx hb dL_law_765 (by decide) (fun c1 => ?_) (fun c1 => ?_)
  ·
    refine lv_iload hx hb dL_law_770 (lv_at hl 1 rfl) ?_
    refine lv_if_ne (tgt := 787) hx hb dL_law_772 (by decide) (fun c2 => ?_) (fun c2 => ?_)
    ·
      refine lv_goto (tgt := 1343) hx hb dL_law_787 (by decide) ?_
      refine W.widen (k := C + 6) (n := S + 36) (by omega) (by omega) ?_
      exact hN κ τ g _ n H locs ls hJ hS hR (lv_sub hl [2, 3, 4, 5, 6] rfl)
    ·
      have hok := rE_z (hk.symm.trans c2)
      refine lv_aload_n hx hb dL_law_775 rfl (lv_at hl 5 rfl) ?_
      refine lv_iconst (v := 0) hx hb dL_law_776 (by decide +kernel) ?_
      refine l_out hx hb hJ dL_law_777 ?_
      refine lv_iload hx hb dL_law_778 (lv_at hl 0 rfl) ?_
      refine lv_i2l hx hb dL_law_780 rfl ?_
      refine W.lcmp hx hb dL_law_781 ?_
      refine lv_if_eq (tgt := 787) hx hb dL_law_782 (by decide) (fun c3 => ?_) (fun c3 => ?_)
      ·
        refine lv_goto (tgt := 1343) hx hb dL_law_787 (by decide) ?_
        refine W.widen (k := C + 6) (n := S + 36) (by omega) (by omega) ?_
        exact hN κ τ g _ n H locs ls hJ hS hR (lv_sub hl [2, 3, 4, 5, 6] rfl)
      ·
        exact absurd (cmp_0 (by rw [hg hok, hv, if_pos hok, a_best hR hok.1 hok.2])) c3
  ·
    exact absurd (by rw [hk]) c1
end SCasesB
