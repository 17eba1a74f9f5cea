/-! ===== the law: rows, loop, start ===== -/
section SLaw8
theorem sJ.w12 {D : sD} {B : Nat} {a b c : va_W} {s : State} {H : Heap} (h : sJ D B (a ++ (b ++ c)) s H) : sJ D B (a ++ b) s H := by
  rw [← List.append_assoc] at h
  exact h.left
theorem w12 {D : sD} {B : Nat} {a b c : va_W} {s : State} {H : Heap} (h : sJ D B (a ++ (b ++ c)) s H) : sJ D B (a ++ b) s H := h.w12
theorem w13 {D : sD} {B : Nat} {a b c : va_W} {s : State} {H : Heap} (h : sJ D B (a ++ (b ++ c)) s H) : sJ D B (a ++ c) s H := by
  have h1 := h.swap
  rw [List.append_assoc] at h1
  exact h1.swap.left.swap
theorem rS.rot {D : sD} {B : Nat} {A : Nat → Prop} {a b c : va_W} {s : State} {H : Heap} {locs : List Loc} (h : rS D B A (a ++ (b ++ c)) s H locs) : rS D B A (b ++ (c ++ a)) s H locs := by
  have h1 := h.1.swap
  rw [List.append_assoc] at h1
  exact ⟨h1, h.2⟩
theorem rS.addr {D : sD} {B : Nat} {A : Nat → Prop} {ad : Nat → Nat} {κ : sQ} {b : va_W} {s : State} {H : Heap} {locs : List Loc} (h : rS D B A (CW D ad κ ++ b) s H locs) : ∀ k, k < 68 → B ≤ ad k := by
  intro k hk
  obtain ⟨q, hq, eq⟩ := (CW_adr D ad κ).at hk
  rw [← eq]
  exact (va_D_left h.1.2.1).2 k q hq
theorem PZ_z (D : sD) (ad bd : Nat → Nat) (κ μ : sQ) (zc : Nat) (zf : Nat → Int32) : (CW D ad κ ++ (CW D bd μ ++ [ZC D zc zf]))[136]? = some (zc, .inl (D.2.1, 1, .inl zf)) := by
  rw [List.getElem?_append_right (by rw [CW_len]; omega), CW_len]
  exact CZ_z D bd μ zc zf
theorem PZ_set (D : sD) (ad bd : Nat → Nat) (κ μ : sQ) (zc : Nat) (zf g : Nat → Int32) : (CW D ad κ ++ (CW D bd μ ++ [ZC D zc zf])).set 136 (zc, .inl (D.2.1, 1, .inl g)) = CW D ad κ ++ (CW D bd μ ++ [ZC D zc g]) := by
  rw [List.set_append, if_neg (by rw [CW_len]; omega), CW_len, List.set_append, if_neg (by rw [CW_len]; omega), CW_len]
  rfl
theorem z_st {p : Program} {l : Launch} {e : Env} {R : Room} {s : State} {m : MethodId} {args : Array Value} {below : List Frame} {meth : Method} {c : Code} {H : Heap} {locs : List Loc} {cells slots : Nat} {Q : State → Prop} {cc : ByteArray} {pc : Nat} {ls : Array Slot} {rest : List Value} {D : sD} {ad bd : Nat → Nat} {κ μ : sQ} {zc : Nat} {zf : Nat → Int32} {v : Int32} (hx : p.tables.exec = Jvm.exec) (hb : c.code = cc) (hZ : sZ s.heap.size s s.heap) (hS : rS D s.heap.size (fun q : Nat => s.heap.size ≤ q) (CW D ad κ ++ (CW D bd μ ++ [ZC D zc zf])) s H locs) (hdg : decode cc pc = .ok (.iastore, 1))
    (kk : ∀ (H1 : Heap) (locs1 : List Loc) (g : Nat → Int32), rS D s.heap.size (fun q : Nat => s.heap.size ≤ q) (CW D ad κ ++ (CW D bd μ ++ [ZC D zc g])) s H1 locs1 → W p l e R s m args below meth c H1 locs1 cells slots Q (F0 m (pc + 1) ls rest)) : W p l e R s m args below meth c H locs cells slots Q (F0 m pc ls (.int v :: .int 0 :: .ref zc :: rest)) := by
  refine va_iast (D := D.1) (cl := vwCl) (tys := sTys D) hx hb hS.1.2.2.2.1.1 hS.1.1 hS.1.2.1 hS.2.1 136 0 (PZ_z D ad bd κ μ zc zf) rfl (fun q => q.elim (by decide +kernel) (by decide +kernel)) hdg (fun H1 locs1 q1 q2 q3 => kk H1 locs1 (upd zf (0 : Int32).toNatClampNeg v) ?_)
  rw [PZ_set] at q1 q2
  exact ⟨⟨q1, q2, q3.1, hS.1.2.2.2.1, hZ.kept (fun a h1 h2 => q3.2.1 a h1 h2)⟩, q3, hS.2.2⟩
theorem dr_pre {b L k : Nat} {xs : Nat → Int32} {s : State} {H : Heap} {locs : List Loc} (hX : va_X b L xs s s.heap) (hbl : b < s.heap.size) (hS : va_S (fun q : Nat => s.heap.size ≤ q) s.heap H locs) : PreS s H (va_Pc ([.ref b, .int (nI k)] : List Value) (fun U => va_X b L xs U U.heap)) [.ref b, .int (nI k)] :=
  ⟨dr_blind, fun U hU hW => ⟨rfl, by show va_X b L xs U U.heap; rw [hU]; exact (hX.kept (hS.2.1 b hbl (Nat.not_le.mpr hbl))).moved hW.alike⟩⟩
theorem tw_0 {mm : Nat} : tw mm κ0 κ0 0 := ⟨⟨rfl, rfl, rfl⟩, fun i hi => absurd hi (by omega), fun _ _ => ⟨rfl, fun _ => rfl⟩⟩
theorem sG_0 : sG κ0 0 := ⟨(by decide +kernel : -20 ≤ (0 : Int32).toInt ∧ (0 : Int32).toInt ≤ 20), fun i hi => absurd hi (by omega)⟩
set_option maxRecDepth 100000 in
set_option maxHeartbeats 4000000 in
theorem law_loop {p : Program} {l : Launch} {e : Env} {s : State} {m : MethodId} {below : List Frame} {meth : Method} {c : Code} {b L : Nat} {xs : Nat → Int32} {D : sD} {ad bd : Nat → Nat} {zc : Nat} (hfl : l.flags = flags0) (hL : L ≤ 260) (C0 : lw_At p s m meth c b L xs) (hZ : sZ s.heap.size s s.heap) {st mm th : Nat} (hst0 : st < 2 ^ 31) (hmm : mm < 360) (hth : th ≤ 30) : ∀ (fuel i : Nat), i ≤ th → th + 1 ≤ i + fuel → ∀ (κ μ τ σ : sQ) (n : Nat) (zf : Nat → Int32), sRel κ τ n → sRel μ σ n → tw mm τ σ n → sG τ n → ∀ (H : Heap) (locs : List Loc) (ls : Array Slot), rS D s.heap.size (fun q : Nat => s.heap.size ≤ q) (CW D ad κ ++ (CW D bd μ ++ [ZC D zc zf])) s H locs → lv_has ls 11 [(0, .ref b), (1, .ref (ad 0)), (2, .ref (bd 0)), (3, .ref zc), (4, .int (nI st)), (5, .int (nI mm)), (6, .int (nI th)), (7, .int 1), (8, .int (nI i))] → W p l e room_1 s m #[Value.ref b] below meth c H locs (1612 * i + 200) (9672 * i + 3000) (lw_Z below #[Value.ref b] s) (F0 m 68 ls []) := by
  obtain ⟨hx, hb, hr, hml, hown, hts0, hX, hbl, hlk, hgv⟩ := C0
  have hts : ∀ w ∈ wsL_law, w.before #[Value.ref b] s = true := fun w h => hts0 w (wsL_law_in w h)
  have hown : s.vm.findClass RL = some m.cls := hown
  intro fuel
  induction fuel with
  | zero => intro i h1 h2; exact absurd h2 (by omega)
  | succ fuel ih68 =>
    intro i hit0 hfu κ μ τ σ n zf h1 h2 hT hG H locs ls hS hl
    refine lv_iload hx hb dL_law_68 (lv_at hl 8 rfl) ?_
    refine lv_iload hx hb dL_law_70 (lv_at hl 6 rfl) ?_
    refine lv_icmp_ge (tgt := 230) hx hb dL_law_72 (by decide) (fun c72 => ?_) (fun c72 => ?_)
    ·
      refine lv_iload hx hb dL_law_230 (lv_at hl 7 rfl) ?_
      refine lv_if_eq (tgt := 302) hx hb dL_law_232 (by decide) (fun c232 => absurd c232 (by decide +kernel)) (fun c232 => ?_)
      refine lv_aload_n hx hb dL_law_235 rfl (lv_at hl 1 rfl) ?_
      refine lv_aload_n hx hb dL_law_236 rfl (lv_at hl 2 rfl) ?_
      refine lv_iload hx hb dL_law_237 (lv_at hl 5 rfl) ?_
      refine lv_iload hx hb dL_law_239 (lv_at hl 4 rfl) ?_
      refine lv_bipush (v := 7) hx hb dL_law_241 (by decide +kernel) ?_
      refine lv_idiv hx hb dL_law_243 (by decide +kernel) ?_
      refine lv_topi (fun zz ezz => ?_)
      obtain rfl : zz = nI (st / 7) := ezz.trans (div_k (by decide +kernel) (by omega) (by omega))
      refine l_rd (vx_runS (As := [.ref (ad 0), .ref (bd 0), .int (nI mm), .int (nI (st / 7))]) (rest := []) ⟨hx, hb, hml, hown, hts⟩ (c_L_alike l hfl D s.heap.size ad bd κ μ H.size mm (st / 7) (by omega) (by omega) τ σ n h1 h2 hT hG) (va_cwS 4 hts gL_law_L_alike rfl rfl rfl hdS_L_alike ⟨Nat.le_of_ble_eq_true rfl, Nat.le_of_ble_eq_true rfl⟩) (sPSz (w12 hS.1)) rfl rfl hl.1 rfl (lv_room (Nat.le_of_ble_eq_true rfl)) dL_law_244 ⟨(by show _ ≤ 600086; omega), (by show _ ≤ 7301442; omega)⟩) hS ((rfl : (1 : Int32) = 1)) (fun H locs hS => ?_)
      refine lv_if_eq (tgt := 302) hx hb dL_law_247 (by decide) (fun c247 => absurd c247 (by decide +kernel)) (fun c247 => ?_)
      refine lv_aload_n hx hb dL_law_250 rfl (lv_at hl 1 rfl) ?_
      refine lv_iload hx hb dL_law_251 (lv_at hl 4 rfl) ?_
      refine lv_bipush (v := 11) hx hb dL_law_253 (by decide +kernel) ?_
      refine lv_idiv hx hb dL_law_255 (by decide +kernel) ?_
      refine lv_topi (fun zz ezz => ?_)
      obtain rfl : zz = nI (st / 11) := ezz.trans (div_k (by decide +kernel) (by omega) (by omega))
      refine l_rd (vx_runS (As := [.ref (ad 0), .int (nI (st / 11))]) (rest := []) ⟨hx, hb, hml, hown, hts⟩ (c_L_holds l hfl D s.heap.size ad κ H.size (st / 11) (by omega) τ n h1 hG) (va_cwS 2 hts gL_law_L_holds rfl rfl rfl hdS_L_holds ⟨Nat.le_of_ble_eq_true rfl, Nat.le_of_ble_eq_true rfl⟩) (sPSz hS.1.left) rfl rfl hl.1 rfl (lv_room (Nat.le_of_ble_eq_true rfl)) dL_law_256 ⟨(by show _ ≤ 600086; omega), (by show _ ≤ 7301442; omega)⟩) hS ((rfl : (1 : Int32) = 1)) (fun H locs hS => ?_)
      refine lv_if_eq (tgt := 302) hx hb dL_law_259 (by decide) (fun c259 => absurd c259 (by decide +kernel)) (fun c259 => ?_)
      refine lv_aload_n hx hb dL_law_262 rfl (lv_at hl 2 rfl) ?_
      refine lv_iload hx hb dL_law_263 (lv_at hl 4 rfl) ?_
      refine lv_bipush (v := 13) hx hb dL_law_265 (by decide +kernel) ?_
      refine lv_idiv hx hb dL_law_267 (by decide +kernel) ?_
      refine lv_topi (fun zz ezz => ?_)
      obtain rfl : zz = nI (st / 13) := ezz.trans (div_k (by decide +kernel) (by omega) (by omega))
      refine l_rd (vx_runS (As := [.ref (bd 0), .int (nI (st / 13))]) (rest := []) ⟨hx, hb, hml, hown, hts⟩ (c_L_holds l hfl D s.heap.size bd μ H.size (st / 13) (by omega) σ n h2 (tw_G hT hG)) (va_cwS 2 hts gL_law_L_holds rfl rfl rfl hdS_L_holds ⟨Nat.le_of_ble_eq_true rfl, Nat.le_of_ble_eq_true rfl⟩) (sPSz hS.rot.1.left) rfl rfl hl.1 rfl (lv_room (Nat.le_of_ble_eq_true rfl)) dL_law_268 ⟨(by show _ ≤ 600086; omega), (by show _ ≤ 7301442; omega)⟩) hS ((rfl : (1 : Int32) = 1)) (fun H locs hS => ?_)
      refine lv_if_eq (tgt := 302) hx hb dL_law_271 (by decide) (fun c271 => absurd c271 (by decide +kernel)) (fun c271 => ?_)
      refine lv_aload_n hx hb dL_law_274 rfl (lv_at hl 1 rfl) ?_
      refine lv_iload hx hb dL_law_275 (lv_at hl 4 rfl) ?_
      refine lv_bipush (v := 17) hx hb dL_law_277 (by decide +kernel) ?_
      refine lv_idiv hx hb dL_law_279 (by decide +kernel) ?_
      refine lv_topi (fun zz ezz => ?_)
      obtain rfl : zz = nI (st / 17) := ezz.trans (div_k (by decide +kernel) (by omega) (by omega))
      refine l_mt (vx_runS (As := [.ref (ad 0), .int (nI (st / 17))]) (rest := []) ⟨hx, hb, hml, hown, hts⟩ (c_L_back l hfl D s.heap.size ad κ H.size (st / 17) (by omega) τ n h1) (va_cwS 2 hts gL_law_L_back rfl rfl rfl hdS_L_back ⟨Nat.le_of_ble_eq_true rfl, Nat.le_of_ble_eq_true rfl⟩) (sPSz hS.1.left) rfl rfl hl.1 rfl (lv_room (Nat.le_of_ble_eq_true rfl)) dL_law_280 ⟨(by show _ ≤ 600086; omega), (by show _ ≤ 7301442; omega)⟩) hS hS.addr ((rfl : (1 : Int32) = 1)) (fun H locs hS => ?_)
      refine lv_if_eq (tgt := 302) hx hb dL_law_283 (by decide) (fun c283 => absurd c283 (by decide +kernel)) (fun c283 => ?_)
      have hf : 500 ≤ nI (500 + st / 17 % 1001) ∧ nI (500 + st / 17 % 1001) ≤ 1500 := in_l (l := 500) (m := 1500) (by decide +kernel) (by decide +kernel) (by omega) (by omega) (by omega)
      refine lv_aload_n hx hb dL_law_286 rfl (lv_at hl 1 rfl) ?_
      refine lv_iload hx hb dL_law_287 (lv_at hl 4 rfl) ?_
      refine lv_bipush (v := 19) hx hb dL_law_289 (by decide +kernel) ?_
      refine lv_idiv hx hb dL_law_291 (by decide +kernel) ?_
      refine lv_topi (fun zz ezz => ?_)
      obtain rfl : zz = nI (st / 19) := ezz.trans (div_k (by decide +kernel) (by omega) (by omega))
      refine l_rd (vx_runS (As := [.ref (ad 0), .int (nI (st / 19))]) (rest := []) ⟨hx, hb, hml, hown, hts⟩ (c_L_holds l hfl D s.heap.size ad (bkA (bkB (bkA κ n) n (nI (500 + (st / 17) % 1001))) n) H.size (st / 19) (by omega) (tF τ 1000 0 0) n (bk_C h1 hf) (bk_G hG)) (va_cwS 2 hts gL_law_L_holds rfl rfl rfl hdS_L_holds ⟨Nat.le_of_ble_eq_true rfl, Nat.le_of_ble_eq_true rfl⟩) (sPSz hS.1.left) rfl rfl hl.1 rfl (lv_room (Nat.le_of_ble_eq_true rfl)) dL_law_292 ⟨(by show _ ≤ 600086; omega), (by show _ ≤ 7301442; omega)⟩) hS ((rfl : (1 : Int32) = 1)) (fun H locs hS => ?_)
      refine lv_if_eq (tgt := 302) hx hb dL_law_295 (by decide) (fun c295 => absurd c295 (by decide +kernel)) (fun c295 => ?_)
      refine lv_iconst (v := 1) hx hb dL_law_298 (by decide +kernel) ?_
      refine lv_goto (tgt := 303) hx hb dL_law_299 (by decide) ?_
      refine va_forget (fun q hq => hS.2.1.2.2 q hq) ?_
      refine W.widen (k := 600086) (n := 7301442) (by omega) (by omega) ?_
      exact lw_ret hx hb hr hlk dL_law_303
    ·
      have hit : i < th := Nat.lt_of_not_le (fun q => c72 (nI_le q (by omega)))
      refine lv_iload hx hb dL_law_75 (lv_at hl 7 rfl) ?_
      refine lv_if_eq (tgt := 230) hx hb dL_law_77 (by decide) (fun c77 => absurd c77 (by decide +kernel)) (fun c77 => ?_)
      refine lv_aload_n hx hb dL_law_80 rfl (lv_at hl 0 rfl) ?_
      refine lv_iconst (v := 1) hx hb dL_law_81 (by decide +kernel) ?_
      refine lv_iload hx hb dL_law_82 (lv_at hl 8 rfl) ?_
      refine lv_iadd hx hb dL_law_84 ?_
      refine lv_topi (fun zz ezz => ?_)
      obtain rfl : zz = nI (1 + i) := ezz.trans (add_l (by decide +kernel))
      refine s_ciS (As := [.ref b, .int (nI (1 + i))]) (rest := []) ⟨hx, hb, hml, hown, hts⟩ (c_L_drawn l b L xs (1 + i) (by omega) hL) (va_cwS 2 hts gL_law_L_drawn rfl rfl rfl hdS_L_drawn ⟨Nat.le_of_ble_eq_true rfl, Nat.le_of_ble_eq_true rfl⟩) (dr_pre hX hbl hS.2.1) rfl hl.1 rfl (Nat.le_of_ble_eq_true rfl) dL_law_85 ⟨(by show _ ≤ 600086; omega), (by show _ ≤ 7301442; omega)⟩ ?_
      obtain ⟨x, hx0, ex⟩ := drF_n L xs (1 + i)
      refine lv_topi (fun zz ezz => ?_)
      obtain rfl : zz = nI x := ezz.trans (ex)
      refine lv_istore (lv' := [(9, .int (nI x)), (0, .ref b), (1, .ref (ad 0)), (2, .ref (bd 0)), (3, .ref zc), (4, .int (nI st)), (5, .int (nI mm)), (6, .int (nI th)), (7, .int 1), (8, .int (nI i))]) hx hb dL_law_88 hl (by decide) rfl (fun ls hl => ?_)
      refine lv_aload_n hx hb dL_law_90 rfl (lv_at hl 2 rfl) ?_
      refine lv_aload_n hx hb dL_law_91 rfl (lv_at hl 4 rfl) ?_
      refine lv_iload hx hb dL_law_92 (lv_at hl 0 rfl) ?_
      refine lv_iconst (v := 0) hx hb dL_law_94 (by decide +kernel) ?_
      refine lv_topi (fun zz ezz => ?_)
      obtain rfl : zz = nI 0 := ezz.trans (rfl)
      refine l_mt (vx_runS (As := [.ref (ad 0), .ref zc, .int (nI x), .int (nI 0)]) (rest := []) ⟨hx, hb, hml, hown, hts⟩ (c_L_act l hfl D s.heap.size ad κ H.size zc zf x 0 (by omega) (by omega) τ n h1) (va_cwS 4 hts gL_law_L_act rfl rfl rfl hdS_L_act ⟨Nat.le_of_ble_eq_true rfl, Nat.le_of_ble_eq_true rfl⟩) (sPSz (w13 hS.1)) rfl rfl hl.1 rfl (lv_room (Nat.le_of_ble_eq_true rfl)) dL_law_95 ⟨(by show _ ≤ 600086; omega), (by show _ ≤ 7301442; omega)⟩) hS hS.addr ((rfl : (acV κ n (zf 0) x 0 : Int32) = acV κ n (zf 0) x 0)) (fun H locs hS => ?_)
      refine lv_istore (lv' := [(10, .int (acV κ n (zf 0) x 0)), (9, .int (nI x)), (0, .ref b), (1, .ref (ad 0)), (2, .ref (bd 0)), (3, .ref zc), (4, .int (nI st)), (5, .int (nI mm)), (6, .int (nI th)), (7, .int 1), (8, .int (nI i))]) hx hb dL_law_98 hl (by decide) rfl (fun ls hl => ?_)
      refine lv_aload_n hx hb dL_law_100 rfl (lv_at hl 4 rfl) ?_
      refine lv_iload hx hb dL_law_101 (lv_at hl 1 rfl) ?_
      refine lv_sipush (v := 9973) hx hb dL_law_103 (by decide +kernel) ?_
      refine lv_irem hx hb dL_law_106 (by decide +kernel) ?_
      refine lv_topi (fun zz ezz => ?_)
      obtain rfl : zz = nI (x % 9973) := ezz.trans (rem_k (by decide +kernel) (by omega) (by omega))
      refine l_mt (vx_runS (As := [.ref (bd 0), .int (nI (x % 9973))]) (rest := []) ⟨hx, hb, hml, hown, hts⟩ (c_L_refuses l hfl D s.heap.size bd μ H.size (x % 9973) (by omega) σ n h2) (va_cwS 2 hts gL_law_L_refuses rfl rfl rfl hdS_L_refuses ⟨Nat.le_of_ble_eq_true rfl, Nat.le_of_ble_eq_true rfl⟩) (sPSz hS.rot.1.left) rfl rfl hl.1 rfl (lv_room (Nat.le_of_ble_eq_true rfl)) dL_law_107 ⟨(by show _ ≤ 600086; omega), (by show _ ≤ 7301442; omega)⟩) hS.rot hS.rot.addr ((rfl : (1 : Int32) = 1)) (fun H locs hS => ?_)
      replace hS := hS.rot.rot
      refine lv_if_eq (tgt := 131) hx hb dL_law_110 (by decide) (fun c110 => absurd c110 (by decide +kernel)) (fun c110 => ?_)
      refine lv_aload_n hx hb dL_law_113 rfl (lv_at hl 4 rfl) ?_
      refine lv_aload_n hx hb dL_law_114 rfl (lv_at hl 5 rfl) ?_
      refine lv_iload hx hb dL_law_115 (lv_at hl 1 rfl) ?_
      refine lv_iload hx hb dL_law_117 (lv_at hl 7 rfl) ?_
      refine l_mt (vx_runS (As := [.ref (bd 0), .ref zc, .int (nI x), .int (nI mm)]) (rest := []) ⟨hx, hb, hml, hown, hts⟩ (c_L_act l hfl D s.heap.size bd μ H.size zc zf x mm (by omega) (by omega) σ n h2) (va_cwS 4 hts gL_law_L_act rfl rfl rfl hdS_L_act ⟨Nat.le_of_ble_eq_true rfl, Nat.le_of_ble_eq_true rfl⟩) (sPSz hS.1.swap.left) rfl rfl hl.1 rfl (lv_room (Nat.le_of_ble_eq_true rfl)) dL_law_119 ⟨(by show _ ≤ 600086; omega), (by show _ ≤ 7301442; omega)⟩) hS.rot hS.rot.addr ((act_V h1 h2 hT : (acV μ n (zf 0) x mm : Int32) = acV κ n (zf 0) x 0)) (fun H locs hS => ?_)
      replace hS := hS.rot.rot
      refine lv_iload hx hb dL_law_122 (lv_at hl 0 rfl) ?_
      refine lv_icmp_ne (tgt := 131) hx hb dL_law_124 (by decide) (fun c124 => absurd (rfl) c124) (fun c124 => ?_)
      refine lv_iconst (v := 1) hx hb dL_law_127 (by decide +kernel) ?_
      refine lv_goto (tgt := 132) hx hb dL_law_128 (by decide) ?_
      refine lv_istore (lv' := [(7, .int 1), (10, .int (acV κ n (zf 0) x 0)), (9, .int (nI x)), (0, .ref b), (1, .ref (ad 0)), (2, .ref (bd 0)), (3, .ref zc), (4, .int (nI st)), (5, .int (nI mm)), (6, .int (nI th)), (8, .int (nI i))]) hx hb dL_law_132 hl (by decide) rfl (fun ls hl => ?_)
      obtain ⟨n1, τ1, σ1, h1, h2, hT, hG⟩ := act_rel (k := x) (z := zf 0) h1 h2 hT hG hmm
      generalize acK κ n (zf 0) x 0 = κ1 at hS h1
      generalize acK μ n (zf 0) x mm = μ1 at hS h2
      refine lv_aload_n hx hb dL_law_134 rfl (lv_at hl 6 rfl) ?_
      refine lv_iconst (v := 0) hx hb dL_law_135 (by decide +kernel) ?_
      have j170 : ∀ (v : Int32) (H : Heap) (locs : List Loc) (ls : Array Slot), rS D s.heap.size (fun q : Nat => s.heap.size ≤ q) (CW D ad κ1 ++ (CW D bd μ1 ++ [ZC D zc zf])) s H locs → lv_has ls 11 [(7, .int 1), (10, .int (acV κ n (zf 0) x 0)), (9, .int (nI x)), (0, .ref b), (1, .ref (ad 0)), (2, .ref (bd 0)), (3, .ref zc), (4, .int (nI st)), (5, .int (nI mm)), (6, .int (nI th)), (8, .int (nI i))] → W p l e room_1 s m #[Value.ref b] below meth c H locs (1612 * i + 412) (9672 * i + 4272) (lw_Z below #[Value.ref b] s) (F0 m 170 ls [.int v, .int 0, .ref zc]) := by
        intro v H locs ls hS hl
        refine z_st hx hb hZ hS dL_law_170 (fun H locs zf hS => ?_)
        refine lv_iload hx hb dL_law_171 (lv_at hl 0 rfl) ?_
        refine lv_if_eq (tgt := 221) hx hb dL_law_173 (by decide) (fun c173 => absurd c173 (by decide +kernel)) (fun c173 => ?_)
        have j196 : ∀ (H : Heap) (locs : List Loc) (ls : Array Slot), rS D s.heap.size (fun q : Nat => s.heap.size ≤ q) (CW D ad κ1 ++ (CW D bd μ1 ++ [ZC D zc zf])) s H locs → lv_has ls 11 [(7, .int 1), (9, .int (nI x)), (0, .ref b), (1, .ref (ad 0)), (2, .ref (bd 0)), (3, .ref zc), (4, .int (nI st)), (5, .int (nI mm)), (6, .int (nI th)), (8, .int (nI i))] → W p l e room_1 s m #[Value.ref b] below meth c H locs (1612 * i + 612) (9672 * i + 5472) (lw_Z below #[Value.ref b] s) (F0 m 196 ls []) := by
          intro  H locs ls hS hl
          have j217 : ∀ (H : Heap) (locs : List Loc) (ls : Array Slot), rS D s.heap.size (fun q : Nat => s.heap.size ≤ q) (CW D ad κ1 ++ (CW D bd μ1 ++ [ZC D zc zf])) s H locs → lv_has ls 11 [(7, .int 1), (9, .int (nI x)), (0, .ref b), (1, .ref (ad 0)), (2, .ref (bd 0)), (3, .ref zc), (4, .int (nI st)), (5, .int (nI mm)), (6, .int (nI th)), (8, .int (nI i))] → W p l e room_1 s m #[Value.ref b] below meth c H locs (1612 * i + 1812) (9672 * i + 12672) (lw_Z below #[Value.ref b] s) (F0 m 217 ls []) := by
            intro  H locs ls hS hl
            refine lv_iconst (v := 1) hx hb dL_law_217 (by decide +kernel) ?_
            refine lv_goto (tgt := 222) hx hb dL_law_218 (by decide) ?_
            refine lv_istore (lv' := [(7, .int 1), (9, .int (nI x)), (0, .ref b), (1, .ref (ad 0)), (2, .ref (bd 0)), (3, .ref zc), (4, .int (nI st)), (5, .int (nI mm)), (6, .int (nI th)), (8, .int (nI i))]) hx hb dL_law_222 hl (by decide) rfl (fun ls hl => ?_)
            refine lv_iinc (v := nI (i + 1)) (lv' := [(8, .int (nI (i + 1))), (7, .int 1), (9, .int (nI x)), (0, .ref b), (1, .ref (ad 0)), (2, .ref (bd 0)), (3, .ref zc), (4, .int (nI st)), (5, .int (nI mm)), (6, .int (nI th))]) hx hb dL_law_224 hl (k := 9) rfl (nI_add i 1) (by decide) rfl (fun ls hl => ?_)
            refine lv_goto (tgt := 68) hx hb dL_law_227 (by decide) ?_
            refine W.widen (k := 1612 * (i + 1) + 200) (n := 9672 * (i + 1) + 3000) (by omega) (by omega) ?_
            exact ih68 (i + 1) (by omega) (by omega) κ1 μ1 τ1 σ1 n1 zf h1 h2 hT hG _ _ _ hS (lv_sub hl [3, 4, 5, 6, 7, 8, 9, 1, 0] rfl)
          refine lv_iload hx hb dL_law_196 (lv_at hl 9 rfl) ?_
          refine lv_iconst (v := 5) hx hb dL_law_198 (by decide +kernel) ?_
          refine lv_irem hx hb dL_law_199 (by decide +kernel) ?_
          refine lv_topi (fun zz ezz => ?_)
          obtain rfl : zz = nI (i % 5) := ezz.trans (rem_k (by decide +kernel) (by omega) (by omega))
          refine lv_if_gt (tgt := 217) hx hb dL_law_200 (by decide) (fun c200 => ?_) (fun c200 => ?_)
          ·
            refine W.widen (k := 1612 * i + 1812) (n := 9672 * i + 12672) (by omega) (by omega) ?_
            exact j217  _ _ _ hS (lv_sub hl [0, 1, 2, 3, 4, 5, 6, 7, 8, 9] rfl)
          ·
            refine lv_aload_n hx hb dL_law_203 rfl (lv_at hl 3 rfl) ?_
            refine lv_aload_n hx hb dL_law_204 rfl (lv_at hl 4 rfl) ?_
            refine lv_iload hx hb dL_law_205 (lv_at hl 7 rfl) ?_
            refine lv_iload hx hb dL_law_207 (lv_at hl 1 rfl) ?_
            refine lv_iconst (v := 3) hx hb dL_law_209 (by decide +kernel) ?_
            refine lv_idiv hx hb dL_law_210 (by decide +kernel) ?_
            refine lv_topi (fun zz ezz => ?_)
            obtain rfl : zz = nI (x / 3) := ezz.trans (div_k (by decide +kernel) (by omega) (by omega))
            refine l_rd (vx_runS (As := [.ref (ad 0), .ref (bd 0), .int (nI mm), .int (nI (x / 3))]) (rest := []) ⟨hx, hb, hml, hown, hts⟩ (c_L_alike l hfl D s.heap.size ad bd κ1 μ1 H.size mm (x / 3) (by omega) (by omega) τ1 σ1 n1 h1 h2 hT hG) (va_cwS 4 hts gL_law_L_alike rfl rfl rfl hdS_L_alike ⟨Nat.le_of_ble_eq_true rfl, Nat.le_of_ble_eq_true rfl⟩) (sPSz (w12 hS.1)) rfl rfl hl.1 rfl (lv_room (Nat.le_of_ble_eq_true rfl)) dL_law_211 ⟨(by show _ ≤ 600086; omega), (by show _ ≤ 7301442; omega)⟩) hS ((rfl : (1 : Int32) = 1)) (fun H locs hS => ?_)
            refine lv_if_eq (tgt := 221) hx hb dL_law_214 (by decide) (fun c214 => absurd c214 (by decide +kernel)) (fun c214 => ?_)
            refine W.widen (k := 1612 * i + 1812) (n := 9672 * i + 12672) (by omega) (by omega) ?_
            exact j217  _ _ _ hS (lv_sub hl [0, 1, 2, 3, 4, 5, 6, 7, 8, 9] rfl)
        refine lv_iload hx hb dL_law_176 (lv_at hl 10 rfl) ?_
        refine lv_iconst (v := 4) hx hb dL_law_178 (by decide +kernel) ?_
        refine lv_irem hx hb dL_law_179 (by decide +kernel) ?_
        refine lv_topi (fun zz ezz => ?_)
        obtain rfl : zz = nI (i % 4) := ezz.trans (rem_k (by decide +kernel) (by omega) (by omega))
        refine lv_if_gt (tgt := 196) hx hb dL_law_180 (by decide) (fun c180 => ?_) (fun c180 => ?_)
        ·
          refine W.widen (k := 1612 * i + 612) (n := 9672 * i + 5472) (by omega) (by omega) ?_
          exact j196  _ _ _ hS (lv_sub hl [0, 2, 3, 4, 5, 6, 7, 8, 9, 10] rfl)
        ·
          refine lv_aload_n hx hb dL_law_183 rfl (lv_at hl 5 rfl) ?_
          refine lv_iload hx hb dL_law_184 (lv_at hl 2 rfl) ?_
          refine lv_sipush (v := 499) hx hb dL_law_186 (by decide +kernel) ?_
          refine lv_irem hx hb dL_law_189 (by decide +kernel) ?_
          refine lv_topi (fun zz ezz => ?_)
          obtain rfl : zz = nI (x % 499) := ezz.trans (rem_k (by decide +kernel) (by omega) (by omega))
          refine l_mt (vx_runS (As := [.ref (bd 0), .int (nI (x % 499))]) (rest := []) ⟨hx, hb, hml, hown, hts⟩ (c_L_refuses l hfl D s.heap.size bd μ1 H.size (x % 499) (by omega) σ1 n1 h2) (va_cwS 2 hts gL_law_L_refuses rfl rfl rfl hdS_L_refuses ⟨Nat.le_of_ble_eq_true rfl, Nat.le_of_ble_eq_true rfl⟩) (sPSz hS.rot.1.left) rfl rfl hl.1 rfl (lv_room (Nat.le_of_ble_eq_true rfl)) dL_law_190 ⟨(by show _ ≤ 600086; omega), (by show _ ≤ 7301442; omega)⟩) hS.rot hS.rot.addr ((rfl : (1 : Int32) = 1)) (fun H locs hS => ?_)
          replace hS := hS.rot.rot
          refine lv_if_eq (tgt := 221) hx hb dL_law_193 (by decide) (fun c193 => absurd c193 (by decide +kernel)) (fun c193 => ?_)
          refine W.widen (k := 1612 * i + 612) (n := 9672 * i + 5472) (by omega) (by omega) ?_
          exact j196  _ _ _ hS (lv_sub hl [0, 2, 3, 4, 5, 6, 7, 8, 9, 10] rfl)
      refine lv_iload hx hb dL_law_136 (lv_at hl 2 rfl) ?_
      refine lv_bipush (v := 8) hx hb dL_law_138 (by decide +kernel) ?_
      refine lv_irem hx hb dL_law_140 (by decide +kernel) ?_
      refine lv_topi (fun zz ezz => ?_)
      obtain rfl : zz = nI (x % 8) := ezz.trans (rem_k (by decide +kernel) (by omega) (by omega))
      refine lv_iconst (v := 2) hx hb dL_law_141 (by decide +kernel) ?_
      refine lv_icmp_le (tgt := 167) hx hb dL_law_142 (by decide) (fun c142 => ?_) (fun c142 => ?_)
      ·
        refine lv_aload_n hx hb dL_law_167 rfl (lv_at hl 6 rfl) ?_
        refine lv_iconst (v := 0) hx hb dL_law_168 (by decide +kernel) ?_
        refine z_ld hx hb hS.1.swap.left dL_law_169 ?_
        refine W.widen (k := 1612 * i + 412) (n := 9672 * i + 4272) (by omega) (by omega) ?_
        exact j170 (zf 0) _ _ _ hS (lv_sub hl [0, 1, 2, 3, 4, 5, 6, 7, 8, 9, 10] rfl)
      ·
        refine lv_iload hx hb dL_law_145 (lv_at hl 1 rfl) ?_
        refine lv_if_lt (tgt := 167) hx hb dL_law_147 (by decide) (fun c147 => ?_) (fun c147 => ?_)
        ·
          refine lv_aload_n hx hb dL_law_167 rfl (lv_at hl 6 rfl) ?_
          refine lv_iconst (v := 0) hx hb dL_law_168 (by decide +kernel) ?_
          refine z_ld hx hb hS.1.swap.left dL_law_169 ?_
          refine W.widen (k := 1612 * i + 412) (n := 9672 * i + 4272) (by omega) (by omega) ?_
          exact j170 (zf 0) _ _ _ hS (lv_sub hl [0, 1, 2, 3, 4, 5, 6, 7, 8, 9, 10] rfl)
        ·
          refine lv_aload_n hx hb dL_law_150 rfl (lv_at hl 6 rfl) ?_
          refine lv_iconst (v := 0) hx hb dL_law_151 (by decide +kernel) ?_
          refine z_ld hx hb hS.1.swap.left dL_law_152 ?_
          refine lv_iload hx hb dL_law_153 (lv_at hl 2 rfl) ?_
          refine lv_bipush (v := 8) hx hb dL_law_155 (by decide +kernel) ?_
          refine lv_idiv hx hb dL_law_157 (by decide +kernel) ?_
          refine lv_topi (fun zz ezz => ?_)
          obtain rfl : zz = nI (x / 8) := ezz.trans (div_k (by decide +kernel) (by omega) (by omega))
          refine lv_bipush (v := 60) hx hb dL_law_158 (by decide +kernel) ?_
          refine lv_irem hx hb dL_law_160 (by decide +kernel) ?_
          refine lv_topi (fun zz ezz => ?_)
          obtain rfl : zz = nI ((x / 8) % 60) := ezz.trans (rem_k (by decide +kernel) (by omega) (by omega))
          refine lv_iadd hx hb dL_law_161 ?_
          refine lv_iconst (v := 1) hx hb dL_law_162 (by decide +kernel) ?_
          refine lv_iadd hx hb dL_law_163 ?_
          refine lv_goto (tgt := 170) hx hb dL_law_164 (by decide) ?_
          refine W.widen (k := 1612 * i + 412) (n := 9672 * i + 4272) (by omega) (by omega) ?_
          exact j170 (((zf 0) + (nI ((x / 8) % 60))) + 1) _ _ _ hS (lv_sub hl [0, 1, 2, 3, 4, 5, 6, 7, 8, 9, 10] rfl)
set_option maxRecDepth 100000 in
set_option maxHeartbeats 4000000 in
theorem law_from {p : Program} {l : Launch} {e : Env} {s : State} {m : MethodId} {below : List Frame} {meth : Method} {c : Code} {b L : Nat} {xs : Nat → Int32} {D : sD} {ad bd : Nat → Nat} {zc : Nat} (hfl : l.flags = flags0) (hL : L ≤ 260) (C0 : lw_At p s m meth c b L xs) (hZ : sZ s.heap.size s s.heap) (H : Heap) (locs : List Loc) (ls : Array Slot) (hS : rS D s.heap.size (fun q : Nat => s.heap.size ≤ q) (CW D ad κ0 ++ (CW D bd κ0 ++ [ZC D zc (fun _ => 0)])) s H locs) (hl : lv_has ls 11 [(3, .ref zc), (2, .ref (bd 0)), (1, .ref (ad 0)), (0, .ref b)]) : W p l e room_1 s m #[Value.ref b] below meth c H locs 200 3000 (lw_Z below #[Value.ref b] s) (F0 m 20 ls []) := by
  obtain ⟨hx, hb, hr, hml, hown, hts0, hX, hbl, hlk, hgv⟩ := id C0
  have hts : ∀ w ∈ wsL_law, w.before #[Value.ref b] s = true := fun w h => hts0 w (wsL_law_in w h)
  have hown : s.vm.findClass RL = some m.cls := hown
  refine lv_aload_n hx hb dL_law_20 rfl (lv_at hl 3 rfl) ?_
  refine lv_iconst (v := 0) hx hb dL_law_21 (by decide +kernel) ?_
  refine lv_topi (fun zz ezz => ?_)
  obtain rfl : zz = nI 0 := ezz.trans (rfl)
  refine s_ciS (As := [.ref b, .int (nI 0)]) (rest := []) ⟨hx, hb, hml, hown, hts⟩ (c_L_drawn l b L xs 0 (by omega) hL) (va_cwS 2 hts gL_law_L_drawn rfl rfl rfl hdS_L_drawn ⟨Nat.le_of_ble_eq_true rfl, Nat.le_of_ble_eq_true rfl⟩) (dr_pre hX hbl hS.2.1) rfl hl.1 rfl (Nat.le_of_ble_eq_true rfl) dL_law_22 ⟨(by show _ ≤ 600086; omega), (by show _ ≤ 7301442; omega)⟩ ?_
  obtain ⟨st, hst0, est⟩ := drF_n L xs 0
  refine lv_topi (fun zz ezz => ?_)
  obtain rfl : zz = nI st := ezz.trans (est)
  refine lv_istore (lv' := [(4, .int (nI st)), (3, .ref zc), (2, .ref (bd 0)), (1, .ref (ad 0)), (0, .ref b)]) hx hb dL_law_25 hl (by decide) rfl (fun ls hl => ?_)
  refine lv_iload hx hb dL_law_27 (lv_at hl 0 rfl) ?_
  have j46 : ∀ (mm : Nat) (hmm : mm < 360) (H : Heap) (locs : List Loc) (ls : Array Slot), rS D s.heap.size (fun q : Nat => s.heap.size ≤ q) (CW D ad κ0 ++ (CW D bd κ0 ++ [ZC D zc (fun _ => 0)])) s H locs → lv_has ls 11 [(4, .int (nI st)), (3, .ref zc), (2, .ref (bd 0)), (1, .ref (ad 0)), (0, .ref b)] → W p l e room_1 s m #[Value.ref b] below meth c H locs 200 3000 (lw_Z below #[Value.ref b] s) (F0 m 46 ls [.int (nI mm)]) := by
    intro mm hmm H locs ls hS hl
    refine lv_istore (lv' := [(5, .int (nI mm)), (4, .int (nI st)), (3, .ref zc), (2, .ref (bd 0)), (1, .ref (ad 0)), (0, .ref b)]) hx hb dL_law_46 hl (by decide) rfl (fun ls hl => ?_)
    refine lv_bipush (v := 10) hx hb dL_law_48 (by decide +kernel) ?_
    refine lv_iload hx hb dL_law_50 (lv_at hl 1 rfl) ?_
    refine lv_sipush (v := 1080) hx hb dL_law_52 (by decide +kernel) ?_
    refine lv_idiv hx hb dL_law_55 (by decide +kernel) ?_
    refine lv_topi (fun zz ezz => ?_)
    obtain rfl : zz = nI (st / 1080) := ezz.trans (div_k (by decide +kernel) (by omega) (by omega))
    refine lv_bipush (v := 21) hx hb dL_law_56 (by decide +kernel) ?_
    refine lv_irem hx hb dL_law_58 (by decide +kernel) ?_
    refine lv_topi (fun zz ezz => ?_)
    obtain rfl : zz = nI ((st / 1080) % 21) := ezz.trans (rem_k (by decide +kernel) (by omega) (by omega))
    refine lv_iadd hx hb dL_law_59 ?_
    refine lv_topi (fun zz ezz => ?_)
    obtain rfl : zz = nI (10 + ((st / 1080) % 21)) := ezz.trans (add_l (by decide +kernel))
    refine lv_istore (lv' := [(6, .int (nI (10 + ((st / 1080) % 21)))), (5, .int (nI mm)), (4, .int (nI st)), (3, .ref zc), (2, .ref (bd 0)), (1, .ref (ad 0)), (0, .ref b)]) hx hb dL_law_60 hl (by decide) rfl (fun ls hl => ?_)
    refine lv_iconst (v := 1) hx hb dL_law_62 (by decide +kernel) ?_
    refine lv_istore (lv' := [(7, .int 1), (6, .int (nI (10 + ((st / 1080) % 21)))), (5, .int (nI mm)), (4, .int (nI st)), (3, .ref zc), (2, .ref (bd 0)), (1, .ref (ad 0)), (0, .ref b)]) hx hb dL_law_63 hl (by decide) rfl (fun ls hl => ?_)
    refine lv_iconst (v := 0) hx hb dL_law_65 (by decide +kernel) ?_
    refine lv_istore (lv' := [(8, .int 0), (7, .int 1), (6, .int (nI (10 + ((st / 1080) % 21)))), (5, .int (nI mm)), (4, .int (nI st)), (3, .ref zc), (2, .ref (bd 0)), (1, .ref (ad 0)), (0, .ref b)]) hx hb dL_law_66 hl (by decide) rfl (fun ls hl => ?_)
    refine W.widen (k := 1612 * 0 + 200) (n := 9672 * 0 + 3000) (by omega) (by omega) ?_
    exact law_loop hfl hL C0 hZ hst0 hmm (th := 10 + st / 1080 % 21) (by omega) (10 + st / 1080 % 21 + 1) 0 (by omega) (by omega) κ0 κ0 κ0 κ0 0 _ sRel_0 sRel_0 tw_0 sG_0 _ _ _ hS (lv_sub hl [8, 7, 6, 5, 4, 3, 2, 1, 0] rfl)
  refine lv_iconst (v := 3) hx hb dL_law_29 (by decide +kernel) ?_
  refine lv_irem hx hb dL_law_30 (by decide +kernel) ?_
  refine lv_topi (fun zz ezz => ?_)
  obtain rfl : zz = nI (st % 3) := ezz.trans (rem_k (by decide +kernel) (by omega) (by omega))
  refine lv_if_ne (tgt := 38) hx hb dL_law_31 (by decide) (fun c31 => ?_) (fun c31 => ?_)
  ·
    refine lv_iload hx hb dL_law_38 (lv_at hl 0 rfl) ?_
    refine lv_iconst (v := 3) hx hb dL_law_40 (by decide +kernel) ?_
    refine lv_idiv hx hb dL_law_41 (by decide +kernel) ?_
    refine lv_topi (fun zz ezz => ?_)
    obtain rfl : zz = nI (st / 3) := ezz.trans (div_k (by decide +kernel) (by omega) (by omega))
    refine lv_sipush (v := 360) hx hb dL_law_42 (by decide +kernel) ?_
    refine lv_irem hx hb dL_law_45 (by decide +kernel) ?_
    refine lv_topi (fun zz ezz => ?_)
    obtain rfl : zz = nI ((st / 3) % 360) := ezz.trans (rem_k (by decide +kernel) (by omega) (by omega))
    refine W.widen (k := 200) (n := 3000) (by omega) (by omega) ?_
    exact j46 (st / 3 % 360) (by omega) _ _ _ hS (lv_sub hl [0, 1, 2, 3, 4] rfl)
  ·
    refine lv_iconst (v := 0) hx hb dL_law_34 (by decide +kernel) ?_
    refine lv_goto (tgt := 46) hx hb dL_law_35 (by decide) ?_
    refine W.widen (k := 200) (n := 3000) (by omega) (by omega) ?_
    exact j46 0 (by omega) _ _ _ hS (lv_sub hl [0, 1, 2, 3, 4] rfl)
end SLaw8
