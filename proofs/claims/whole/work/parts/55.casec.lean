section SCasesC
variable {p : Program} {l : Launch} {e : Env} {s : State} {m : MethodId} {below : List Frame} {meth : Method} {c : Code} {b L i n C S : Nat} {xs : Nat → Int32} {D : sD} {ad md : Nat → Nat} {κ τ : sQ} {f : Nat → Int64} {rf : Int32} {H : Heap} {locs : List Loc} {ls : Array Slot}
set_option maxRecDepth 100000 in
set_option maxHeartbeats 4000000 in
theorem lc_bestByLog (hflags : l.flags = flags0) (hL : L ≤ 3072) (C0 : lw_At p s m meth c b L xs) (hi : i + 6 ≤ L) (hC : C ≤ 10000) (hSl : S ≤ 100000) (hN : lgN p l e s m below meth c b D ad md i C S) (hJ : sJ D s.heap.size (OW D ad κ f ++ MW D md rf τ) s H) (hS : va_S (fun q : Nat => s.heap.size ≤ q) s.heap H locs) (hR : sRel κ τ n) (hl : lv_has ls 7 [(0, .ref b), (1, .ref (ad 0)), (2, .ref (md 0)), (3, .ref (ad 68)), (4, .int (nI i))]) : W p l e room_1 s m #[Value.ref b] below meth c H locs C S (lw_Z below #[Value.ref b] s) (F0 m 790 ls []) := by
  obtain ⟨hx, hb, hr, hml, hown, hts0, hX, hbl, hlk, hgv⟩ := C0
  have hts : ∀ w ∈ wsL_law, w.before #[Value.ref b] s = true := fun w h => hts0 w (wsL_law_in w h)
  have hown : s.vm.findClass RL = some m.cls := hown
  have hbA : ¬ (fun q : Nat => s.heap.size ≤ q) b := Nat.not_le.mpr hbl
  refine lv_aload_n hx hb dL_law_790 rfl (lv_at hl 1 rfl) ?_
  refine l_arg (b := b) (L := L) (i := i) (k := 1) (xs := xs) hx hb hX hbl hbA hS hl 0 4 rfl rfl (by decide +kernel) (by omega) (by omega) dL_law_791 dL_law_792 dL_law_794 dL_law_795 dL_law_796 ?_
  refine l_arg (b := b) (L := L) (i := i) (k := 2) (xs := xs) hx hb hX hbl hbA hS hl 0 4 rfl rfl (by decide +kernel) (by omega) (by omega) dL_law_797 dL_law_798 dL_law_800 dL_law_801 dL_law_802 ?_
  refine lv_aload_n hx hb dL_law_803 rfl (lv_at hl 3 rfl) ?_
  refine l_help (vx_runSX (hh := [(0, 10, 13, 24)]) (As := [.ref (ad 0), .int (xs (i + 1)), .int (xs (i + 2)), .ref (ad 68)]) (rest := []) ⟨hx, hb, hml, hown, hts⟩ (h_bestByLog l hflags D s.heap.size ad κ f H.size (xs (i + 1)) (xs (i + 2)) n hR.1.2.1 hR.1.1) (vx_cwSW 4 hts gL_law_L_bestByLog rfl rfl rfl hdS_L_bestByLog ⟨Nat.le_of_ble_eq_true rfl, Nat.le_of_ble_eq_true rfl⟩) (sPSz hJ.left) rfl rfl hl.1 rfl (lv_room (Nat.le_of_ble_eq_true rfl)) dL_law_804 ⟨(by show C + 1 ≤ 601024; omega), (by show S + 6 ≤ 7293034; omega)⟩) hJ hS (fun k9 g H locs hk hg hJ hS => ?_)
  refine lv_istore (lv' := [(5, .int k9), (0, .ref b), (1, .ref (ad 0)), (2, .ref (md 0)), (3, .ref (ad 68)), (4, .int (nI i))]) hx hb dL_law_807 hl (by decide) rfl (fun ls hl => ?_)
  refine lv_aload_n hx hb dL_law_809 rfl (lv_at hl 3 rfl) ?_
  refine l_arg (b := b) (L := L) (i := i) (k := 1) (xs := xs) hx hb hX hbl hbA hS hl 1 5 rfl rfl (by decide +kernel) (by omega) (by omega) dL_law_810 dL_law_811 dL_law_813 dL_law_814 dL_law_815 ?_
  refine l_arg (b := b) (L := L) (i := i) (k := 2) (xs := xs) hx hb hX hbl hbA hS hl 1 5 rfl rfl (by decide +kernel) (by omega) (by omega) dL_law_816 dL_law_817 dL_law_819 dL_law_820 dL_law_821 ?_
  refine l_model (va_runV (As := [.int (xs (i + 1)), .int (xs (i + 2))]) (rest := []) ⟨hx, hb, hml, hown, hts⟩ (c_X4_bestByLog l D s.heap.size md rf τ H.size (xs (i + 1)) (xs (i + 2)) n hR.1.2.2.1 hR.1.1 (rel_tOk hR)) (cwV 2 hts gL_law_X4_bestByLog rfl rfl rfl hdV_X4_bestByLog ⟨Nat.le_of_ble_eq_true rfl, Nat.le_of_ble_eq_true rfl⟩) (sPVz hJ.swap.left (ci := 4) (q0 := 0) rfl rfl) rfl rfl hl.1 rfl (lv_room (Nat.le_of_ble_eq_true rfl)) dL_law_822 ⟨(by show C + 1 + 0 ≤ 601024; omega), (by show S + 6 + 0 ≤ 7293034; omega)⟩) hJ hS (fun v9 H locs hv hJ hS => ?_)
  refine lv_istore (lv' := [(6, .int v9), (5, .int k9), (0, .ref b), (1, .ref (ad 0)), (2, .ref (md 0)), (3, .ref (ad 68)), (4, .int (nI i))]) hx hb dL_law_825 hl (by decide) rfl (fun ls hl => ?_)
  refine lv_aload_n hx hb dL_law_827 rfl (lv_at hl 4 rfl) ?_
  refine s_ciV (As := []) (rest := []) ⟨hx, hb, hml, hown, hts⟩ (c_X4_thrown l D s.heap.size md _ _) (cwV 0 hts gL_law_X4_thrown rfl rfl rfl hdV_X4_thrown ⟨Nat.le_of_ble_eq_true rfl, Nat.le_of_ble_eq_true rfl⟩) (sPV hJ.swap.left (ci := 4) (q0 := 0) rfl rfl) rfl hl.1 rfl (Nat.le_of_ble_eq_true rfl) dL_law_828 ⟨(by show C + 1 ≤ 601024; omega), (by show S + 6 ≤ 7293034; omega)⟩ ?_
  refine lv_iload hx hb dL_law_831 (lv_at hl 1 rfl) ?_
  refine lv_icmp_eq (tgt := 838) hx hb dL_law_833 (by decide) (fun c1 => ?_) (fun c1 => ?_)
  ·
    refine lv_iload hx hb dL_law_838 (lv_at hl 1 rfl) ?_
    refine lv_if_ne (tgt := 855) hx hb dL_law_840 (by decide) (fun c2 => ?_) (fun c2 => ?_)
    ·
      refine lv_goto (tgt := 1343) hx hb dL_law_855 (by decide) ?_
      refine W.widen (k := C + 6) (n := S + 36) (by omega) (by omega) ?_
      exact hN κ τ g _ n H locs ls hJ hS hR (lv_sub hl [2, 3, 4, 5, 6] rfl)
    ·
      have hok := rE_z (hk.symm.trans c2)
      refine lv_aload_n hx hb dL_law_843 rfl (lv_at hl 5 rfl) ?_
      refine lv_iconst (v := 0) hx hb dL_law_844 (by decide +kernel) ?_
      refine l_out hx hb hJ dL_law_845 ?_
      refine lv_iload hx hb dL_law_846 (lv_at hl 0 rfl) ?_
      refine lv_i2l hx hb dL_law_848 rfl ?_
      refine W.lcmp hx hb dL_law_849 ?_
      refine lv_if_eq (tgt := 855) hx hb dL_law_850 (by decide) (fun c3 => ?_) (fun c3 => ?_)
      ·
        refine lv_goto (tgt := 1343) hx hb dL_law_855 (by decide) ?_
        refine W.widen (k := C + 6) (n := S + 36) (by omega) (by omega) ?_
        exact hN κ τ g _ n H locs ls hJ hS hR (lv_sub hl [2, 3, 4, 5, 6] rfl)
      ·
        exact absurd (cmp_0 (by rw [hg hok, hv, if_pos hok, a_byLog hR _ _])) c3
  ·
    exact absurd (by rw [hk]) c1
set_option maxRecDepth 100000 in
set_option maxHeartbeats 4000000 in
theorem lc_bestUp (hflags : l.flags = flags0) (hL : L ≤ 3072) (C0 : lw_At p s m meth c b L xs) (hi : i + 6 ≤ L) (hC : C ≤ 10000) (hSl : S ≤ 100000) (hN : lgN p l e s m below meth c b D ad md i C S) (hJ : sJ D s.heap.size (OW D ad κ f ++ MW D md rf τ) s H) (hS : va_S (fun q : Nat => s.heap.size ≤ q) s.heap H locs) (hR : sRel κ τ n) (hl : lv_has ls 7 [(0, .ref b), (1, .ref (ad 0)), (2, .ref (md 0)), (3, .ref (ad 68)), (4, .int (nI i))]) : W p l e room_1 s m #[Value.ref b] below meth c H locs C S (lw_Z below #[Value.ref b] s) (F0 m 858 ls []) := by
  obtain ⟨hx, hb, hr, hml, hown, hts0, hX, hbl, hlk, hgv⟩ := C0
  have hts : ∀ w ∈ wsL_law, w.before #[Value.ref b] s = true := fun w h => hts0 w (wsL_law_in w h)
  have hown : s.vm.findClass RL = some m.cls := hown
  have hbA : ¬ (fun q : Nat => s.heap.size ≤ q) b := Nat.not_le.mpr hbl
  refine lv_aload_n hx hb dL_law_858 rfl (lv_at hl 1 rfl) ?_
  refine l_arg (b := b) (L := L) (i := i) (k := 1) (xs := xs) hx hb hX hbl hbA hS hl 0 4 rfl rfl (by decide +kernel) (by omega) (by omega) dL_law_859 dL_law_860 dL_law_862 dL_law_863 dL_law_864 ?_
  refine lv_aload_n hx hb dL_law_865 rfl (lv_at hl 3 rfl) ?_
  refine l_help (vx_runSX (hh := [(0, 9, 12, 24)]) (As := [.ref (ad 0), .int (xs (i + 1)), .ref (ad 68)]) (rest := []) ⟨hx, hb, hml, hown, hts⟩ (h_bestUp l hflags D s.heap.size ad κ f H.size (xs (i + 1))) (vx_cwSW 3 hts gL_law_L_bestUp rfl rfl rfl hdS_L_bestUp ⟨Nat.le_of_ble_eq_true rfl, Nat.le_of_ble_eq_true rfl⟩) (sPSz hJ.left) rfl rfl hl.1 rfl (lv_room (Nat.le_of_ble_eq_true rfl)) dL_law_866 ⟨(by show C + 1 ≤ 601024; omega), (by show S + 6 ≤ 7293034; omega)⟩) hJ hS (fun k9 g H locs hk hg hJ hS => ?_)
  refine lv_istore (lv' := [(5, .int k9), (0, .ref b), (1, .ref (ad 0)), (2, .ref (md 0)), (3, .ref (ad 68)), (4, .int (nI i))]) hx hb dL_law_869 hl (by decide) rfl (fun ls hl => ?_)
  refine lv_aload_n hx hb dL_law_871 rfl (lv_at hl 3 rfl) ?_
  refine l_arg (b := b) (L := L) (i := i) (k := 1) (xs := xs) hx hb hX hbl hbA hS hl 1 5 rfl rfl (by decide +kernel) (by omega) (by omega) dL_law_872 dL_law_873 dL_law_875 dL_law_876 dL_law_877 ?_
  refine l_model (va_runV (As := [.int (xs (i + 1))]) (rest := []) ⟨hx, hb, hml, hown, hts⟩ (c_X4_bestUp l D s.heap.size md rf τ H.size (xs (i + 1)) n hR.1.2.2.1 hR.1.1 (rel_tOk hR)) (cwV 1 hts gL_law_X4_bestUp rfl rfl rfl hdV_X4_bestUp ⟨Nat.le_of_ble_eq_true rfl, Nat.le_of_ble_eq_true rfl⟩) (sPVz hJ.swap.left (ci := 4) (q0 := 0) rfl rfl) rfl rfl hl.1 rfl (lv_room (Nat.le_of_ble_eq_true rfl)) dL_law_878 ⟨(by show C + 1 + 0 ≤ 601024; omega), (by show S + 6 + 0 ≤ 7293034; omega)⟩) hJ hS (fun v9 H locs hv hJ hS => ?_)
  refine lv_istore (lv' := [(6, .int v9), (5, .int k9), (0, .ref b), (1, .ref (ad 0)), (2, .ref (md 0)), (3, .ref (ad 68)), (4, .int (nI i))]) hx hb dL_law_881 hl (by decide) rfl (fun ls hl => ?_)
  refine lv_aload_n hx hb dL_law_883 rfl (lv_at hl 4 rfl) ?_
  refine s_ciV (As := []) (rest := []) ⟨hx, hb, hml, hown, hts⟩ (c_X4_thrown l D s.heap.size md _ _) (cwV 0 hts gL_law_X4_thrown rfl rfl rfl hdV_X4_thrown ⟨Nat.le_of_ble_eq_true rfl, Nat.le_of_ble_eq_true rfl⟩) (sPV hJ.swap.left (ci := 4) (q0 := 0) rfl rfl) rfl hl.1 rfl (Nat.le_of_ble_eq_true rfl) dL_law_884 ⟨(by show C + 1 ≤ 601024; omega), (by show S + 6 ≤ 7293034; omega)⟩ ?_
  refine lv_iload hx hb dL_law_887 (lv_at hl 1 rfl) ?_
  refine lv_icmp_eq (tgt := 894) hx hb dL_law_889 (by decide) (fun c1 => ?_) (fun c1 => ?_)
  ·
    refine lv_iload hx hb dL_law_894 (lv_at hl 1 rfl) ?_
    refine lv_if_ne (tgt := 911) hx hb dL_law_896 (by decide) (fun c2 => ?_) (fun c2 => ?_)
    ·
      refine lv_goto (tgt := 1343) hx hb dL_law_911 (by decide) ?_
      refine W.widen (k := C + 6) (n := S + 36) (by omega) (by omega) ?_
      exact hN κ τ g _ n H locs ls hJ hS hR (lv_sub hl [2, 3, 4, 5, 6] rfl)
    ·
      have hok := rE_z (hk.symm.trans c2)
      refine lv_aload_n hx hb dL_law_899 rfl (lv_at hl 5 rfl) ?_
      refine lv_iconst (v := 0) hx hb dL_law_900 (by decide +kernel) ?_
      refine l_out hx hb hJ dL_law_901 ?_
      refine lv_iload hx hb dL_law_902 (lv_at hl 0 rfl) ?_
      refine lv_i2l hx hb dL_law_904 rfl ?_
      refine W.lcmp hx hb dL_law_905 ?_
      refine lv_if_eq (tgt := 911) hx hb dL_law_906 (by decide) (fun c3 => ?_) (fun c3 => ?_)
      ·
        refine lv_goto (tgt := 1343) hx hb dL_law_911 (by decide) ?_
        refine W.widen (k := C + 6) (n := S + 36) (by omega) (by omega) ?_
        exact hN κ τ g _ n H locs ls hJ hS hR (lv_sub hl [2, 3, 4, 5, 6] rfl)
      ·
        exact absurd (cmp_0 (by rw [hg hok, hv, if_pos hok, a_up hR hok])) c3
  ·
    exact absurd (by rw [hk]) c1
set_option maxRecDepth 100000 in
set_option maxHeartbeats 4000000 in
theorem lc_bestDown (hflags : l.flags = flags0) (hL : L ≤ 3072) (C0 : lw_At p s m meth c b L xs) (hi : i + 6 ≤ L) (hC : C ≤ 10000) (hSl : S ≤ 100000) (hN : lgN p l e s m below meth c b D ad md i C S) (hJ : sJ D s.heap.size (OW D ad κ f ++ MW D md rf τ) s H) (hS : va_S (fun q : Nat => s.heap.size ≤ q) s.heap H locs) (hR : sRel κ τ n) (hl : lv_has ls 7 [(0, .ref b), (1, .ref (ad 0)), (2, .ref (md 0)), (3, .ref (ad 68)), (4, .int (nI i))]) : W p l e room_1 s m #[Value.ref b] below meth c H locs C S (lw_Z below #[Value.ref b] s) (F0 m 914 ls []) := by
  obtain ⟨hx, hb, hr, hml, hown, hts0, hX, hbl, hlk, hgv⟩ := C0
  have hts : ∀ w ∈ wsL_law, w.before #[Value.ref b] s = true := fun w h => hts0 w (wsL_law_in w h)
  have hown : s.vm.findClass RL = some m.cls := hown
  have hbA : ¬ (fun q : Nat => s.heap.size ≤ q) b := Nat.not_le.mpr hbl
  refine lv_aload_n hx hb dL_law_914 rfl (lv_at hl 1 rfl) ?_
  refine l_arg (b := b) (L := L) (i := i) (k := 1) (xs := xs) hx hb hX hbl hbA hS hl 0 4 rfl rfl (by decide +kernel) (by omega) (by omega) dL_law_915 dL_law_916 dL_law_918 dL_law_919 dL_law_920 ?_
  refine lv_aload_n hx hb dL_law_921 rfl (lv_at hl 3 rfl) ?_
  refine l_help (vx_runSX (hh := [(0, 9, 12, 24)]) (As := [.ref (ad 0), .int (xs (i + 1)), .ref (ad 68)]) (rest := []) ⟨hx, hb, hml, hown, hts⟩ (h_bestDown l hflags D s.heap.size ad κ f H.size (xs (i + 1))) (vx_cwSW 3 hts gL_law_L_bestDown rfl rfl rfl hdS_L_bestDown ⟨Nat.le_of_ble_eq_true rfl, Nat.le_of_ble_eq_true rfl⟩) (sPSz hJ.left) rfl rfl hl.1 rfl (lv_room (Nat.le_of_ble_eq_true rfl)) dL_law_922 ⟨(by show C + 1 ≤ 601024; omega), (by show S + 6 ≤ 7293034; omega)⟩) hJ hS (fun k9 g H locs hk hg hJ hS => ?_)
  refine lv_istore (lv' := [(5, .int k9), (0, .ref b), (1, .ref (ad 0)), (2, .ref (md 0)), (3, .ref (ad 68)), (4, .int (nI i))]) hx hb dL_law_925 hl (by decide) rfl (fun ls hl => ?_)
  refine lv_aload_n hx hb dL_law_927 rfl (lv_at hl 3 rfl) ?_
  refine l_arg (b := b) (L := L) (i := i) (k := 1) (xs := xs) hx hb hX hbl hbA hS hl 1 5 rfl rfl (by decide +kernel) (by omega) (by omega) dL_law_928 dL_law_929 dL_law_931 dL_law_932 dL_law_933 ?_
  refine l_model (va_runV (As := [.int (xs (i + 1))]) (rest := []) ⟨hx, hb, hml, hown, hts⟩ (c_X4_bestDown l D s.heap.size md rf τ H.size (xs (i + 1)) n hR.1.2.2.1 hR.1.1 (rel_tOk hR)) (cwV 1 hts gL_law_X4_bestDown rfl rfl rfl hdV_X4_bestDown ⟨Nat.le_of_ble_eq_true rfl, Nat.le_of_ble_eq_true rfl⟩) (sPVz hJ.swap.left (ci := 4) (q0 := 0) rfl rfl) rfl rfl hl.1 rfl (lv_room (Nat.le_of_ble_eq_true rfl)) dL_law_934 ⟨(by show C + 1 + 0 ≤ 601024; omega), (by show S + 6 + 0 ≤ 7293034; omega)⟩) hJ hS (fun v9 H locs hv hJ hS => ?_)
  refine lv_istore (lv' := [(6, .int v9), (5, .int k9), (0, .ref b), (1, .ref (ad 0)), (2, .ref (md 0)), (3, .ref (ad 68)), (4, .int (nI i))]) hx hb dL_law_937 hl (by decide) rfl (fun ls hl => ?_)
  refine lv_aload_n hx hb dL_law_939 rfl (lv_at hl 4 rfl) ?_
  refine s_ciV (As := []) (rest := []) ⟨hx, hb, hml, hown, hts⟩ (c_X4_thrown l D s.heap.size md _ _) (cwV 0 hts gL_law_X4_thrown rfl rfl rfl hdV_X4_thrown ⟨Nat.le_of_ble_eq_true rfl, Nat.le_of_ble_eq_true rfl⟩) (sPV hJ.swap.left (ci := 4) (q0 := 0) rfl rfl) rfl hl.1 rfl (Nat.le_of_ble_eq_true rfl) dL_law_940 ⟨(by show C + 1 ≤ 601024; omega), (by show S + 6 ≤ 7293034; omega)⟩ ?_
  refine lv_iload hx hb dL_law_943 (lv_at hl 1 rfl) ?_
  refine lv_icmp_eq (tgt := 950) hx hb dL_law_945 (by decide) (fun c1 => ?_) (fun c1 => ?_)
  ·
    refine lv_iload hx hb dL_law_950 (lv_at hl 1 rfl) ?_
    refine lv_if_ne (tgt := 967) hx hb dL_law_952 (by decide) (fun c2 => ?_) (fun c2 => ?_)
    ·
      refine lv_goto (tgt := 1343) hx hb dL_law_967 (by decide) ?_
      refine W.widen (k := C + 6) (n := S + 36) (by omega) (by omega) ?_
      exact hN κ τ g _ n H locs ls hJ hS hR (lv_sub hl [2, 3, 4, 5, 6] rfl)
    ·
      have hok := rE_z (hk.symm.trans c2)
      refine lv_aload_n hx hb dL_law_955 rfl (lv_at hl 5 rfl) ?_
      refine lv_iconst (v := 0) hx hb dL_law_956 (by decide +kernel) ?_
      refine l_out hx hb hJ dL_law_957 ?_
      refine lv_iload hx hb dL_law_958 (lv_at hl 0 rfl) ?_
      refine lv_i2l hx hb dL_law_960 rfl ?_
      refine W.lcmp hx hb dL_law_961 ?_
      refine lv_if_eq (tgt := 967) hx hb dL_law_962 (by decide) (fun c3 => ?_) (fun c3 => ?_)
      ·
        refine lv_goto (tgt := 1343) hx hb dL_law_967 (by decide) ?_
        refine W.widen (k := C + 6) (n := S + 36) (by omega) (by omega) ?_
        exact hN κ τ g _ n H locs ls hJ hS hR (lv_sub hl [2, 3, 4, 5, 6] rfl)
      ·
        exact absurd (cmp_0 (by rw [hg hok, hv, if_pos hok, a_down hR hok])) c3
  ·
    exact absurd (by rw [hk]) c1
set_option maxRecDepth 100000 in
set_option maxHeartbeats 4000000 in
theorem lc_bestCourse (hflags : l.flags = flags0) (hL : L ≤ 3072) (C0 : lw_At p s m meth c b L xs) (hi : i + 6 ≤ L) (hC : C ≤ 10000) (hSl : S ≤ 100000) (hN : lgN p l e s m below meth c b D ad md i C S) (hJ : sJ D s.heap.size (OW D ad κ f ++ MW D md rf τ) s H) (hS : va_S (fun q : Nat => s.heap.size ≤ q) s.heap H locs) (hR : sRel κ τ n) (hl : lv_has ls 7 [(0, .ref b), (1, .ref (ad 0)), (2, .ref (md 0)), (3, .ref (ad 68)), (4, .int (nI i))]) : W p l e room_1 s m #[Value.ref b] below meth c H locs C S (lw_Z below #[Value.ref b] s) (F0 m 970 ls []) := by
  obtain ⟨hx, hb, hr, hml, hown, hts0, hX, hbl, hlk, hgv⟩ := C0
  have hts : ∀ w ∈ wsL_law, w.before #[Value.ref b] s = true := fun w h => hts0 w (wsL_law_in w h)
  have hown : s.vm.findClass RL = some m.cls := hown
  have hbA : ¬ (fun q : Nat => s.heap.size ≤ q) b := Nat.not_le.mpr hbl
  refine lv_aload_n hx hb dL_law_970 rfl (lv_at hl 1 rfl) ?_
  refine l_arg (b := b) (L := L) (i := i) (k := 1) (xs := xs) hx hb hX hbl hbA hS hl 0 4 rfl rfl (by decide +kernel) (by omega) (by omega) dL_law_971 dL_law_972 dL_law_974 dL_law_975 dL_law_976 ?_
  refine l_arg (b := b) (L := L) (i := i) (k := 2) (xs := xs) hx hb hX hbl hbA hS hl 0 4 rfl rfl (by decide +kernel) (by omega) (by omega) dL_law_977 dL_law_978 dL_law_980 dL_law_981 dL_law_982 ?_
  refine l_arg (b := b) (L := L) (i := i) (k := 3) (xs := xs) hx hb hX hbl hbA hS hl 0 4 rfl rfl (by decide +kernel) (by omega) (by omega) dL_law_983 dL_law_984 dL_law_986 dL_law_987 dL_law_988 ?_
  refine lv_aload_n hx hb dL_law_989 rfl (lv_at hl 3 rfl) ?_
  refine l_help (vx_runSX (hh := [(0, 12, 15, 24), (0, 12, 19, 13)]) (As := [.ref (ad 0), .int (xs (i + 1)), .int (xs (i + 2)), .int (xs (i + 3)), .ref (ad 68)]) (rest := []) ⟨hx, hb, hml, hown, hts⟩ (h_bestCourse l hflags D s.heap.size ad κ f H.size (xs (i + 1)) (xs (i + 2)) (xs (i + 3))) (vx_cwSW 5 hts gL_law_L_bestCourse rfl rfl rfl hdS_L_bestCourse ⟨Nat.le_of_ble_eq_true rfl, Nat.le_of_ble_eq_true rfl⟩) (sPSz hJ.left) rfl rfl hl.1 rfl (lv_room (Nat.le_of_ble_eq_true rfl)) dL_law_990 ⟨(by show C + 3 ≤ 601024; omega), (by show S + 18 ≤ 7293034; omega)⟩) hJ hS (fun k9 g H locs hk hg hJ hS => ?_)
  refine lv_istore (lv' := [(5, .int k9), (0, .ref b), (1, .ref (ad 0)), (2, .ref (md 0)), (3, .ref (ad 68)), (4, .int (nI i))]) hx hb dL_law_993 hl (by decide) rfl (fun ls hl => ?_)
  refine lv_aload_n hx hb dL_law_995 rfl (lv_at hl 3 rfl) ?_
  refine l_arg (b := b) (L := L) (i := i) (k := 1) (xs := xs) hx hb hX hbl hbA hS hl 1 5 rfl rfl (by decide +kernel) (by omega) (by omega) dL_law_996 dL_law_997 dL_law_999 dL_law_1000 dL_law_1001 ?_
  refine l_arg (b := b) (L := L) (i := i) (k := 2) (xs := xs) hx hb hX hbl hbA hS hl 1 5 rfl rfl (by decide +kernel) (by omega) (by omega) dL_law_1002 dL_law_1003 dL_law_1005 dL_law_1006 dL_law_1007 ?_
  refine l_arg (b := b) (L := L) (i := i) (k := 3) (xs := xs) hx hb hX hbl hbA hS hl 1 5 rfl rfl (by decide +kernel) (by omega) (by omega) dL_law_1008 dL_law_1009 dL_law_1011 dL_law_1012 dL_law_1013 ?_
  refine l_model (va_runV (As := [.int (xs (i + 1)), .int (xs (i + 2)), .int (xs (i + 3))]) (rest := []) ⟨hx, hb, hml, hown, hts⟩ (c_X4_bestCourse l D s.heap.size md rf τ H.size (xs (i + 1)) (xs (i + 2)) (xs (i + 3)) n hR.1.2.2.1 hR.1.1 (rel_tOk hR)) (cwV 3 hts gL_law_X4_bestCourse rfl rfl rfl hdV_X4_bestCourse ⟨Nat.le_of_ble_eq_true rfl, Nat.le_of_ble_eq_true rfl⟩) (sPVz hJ.swap.left (ci := 4) (q0 := 0) rfl rfl) rfl rfl hl.1 rfl (lv_room (Nat.le_of_ble_eq_true rfl)) dL_law_1014 ⟨(by show C + 3 + 0 ≤ 601024; omega), (by show S + 18 + 0 ≤ 7293034; omega)⟩) hJ hS (fun v9 H locs hv hJ hS => ?_)
  refine lv_istore (lv' := [(6, .int v9), (5, .int k9), (0, .ref b), (1, .ref (ad 0)), (2, .ref (md 0)), (3, .ref (ad 68)), (4, .int (nI i))]) hx hb dL_law_1017 hl (by decide) rfl (fun ls hl => ?_)
  refine lv_aload_n hx hb dL_law_1019 rfl (lv_at hl 4 rfl) ?_
  refine s_ciV (As := []) (rest := []) ⟨hx, hb, hml, hown, hts⟩ (c_X4_thrown l D s.heap.size md _ _) (cwV 0 hts gL_law_X4_thrown rfl rfl rfl hdV_X4_thrown ⟨Nat.le_of_ble_eq_true rfl, Nat.le_of_ble_eq_true rfl⟩) (sPV hJ.swap.left (ci := 4) (q0 := 0) rfl rfl) rfl hl.1 rfl (Nat.le_of_ble_eq_true rfl) dL_law_1020 ⟨(by show C + 3 ≤ 601024; omega), (by show S + 18 ≤ 7293034; omega)⟩ ?_
  refine lv_iload hx hb dL_law_1023 (lv_at hl 1 rfl) ?_
  refine lv_icmp_eq (tgt := 1030) hx hb dL_law_1025 (by decide) (fun c1 => ?_) (fun c1 => ?_)
  ·
    refine lv_iload hx hb dL_law_1030 (lv_at hl 1 rfl) ?_
    refine lv_if_ne (tgt := 1047) hx hb dL_law_1032 (by decide) (fun c2 => ?_) (fun c2 => ?_)
    ·
      refine lv_goto (tgt := 1343) hx hb dL_law_1047 (by decide) ?_
      refine W.widen (k := C + 6) (n := S + 36) (by omega) (by omega) ?_
      exact hN κ τ g _ n H locs ls hJ hS hR (lv_sub hl [2, 3, 4, 5, 6] rfl)
    ·
      have hok := rL_z (hk.symm.trans c2)
      refine lv_aload_n hx hb dL_law_1035 rfl (lv_at hl 5 rfl) ?_
      refine lv_iconst (v := 0) hx hb dL_law_1036 (by decide +kernel) ?_
      refine l_out hx hb hJ dL_law_1037 ?_
      refine lv_iload hx hb dL_law_1038 (lv_at hl 0 rfl) ?_
      refine lv_i2l hx hb dL_law_1040 rfl ?_
      refine W.lcmp hx hb dL_law_1041 ?_
      refine lv_if_eq (tgt := 1047) hx hb dL_law_1042 (by decide) (fun c3 => ?_) (fun c3 => ?_)
      ·
        refine lv_goto (tgt := 1343) hx hb dL_law_1047 (by decide) ?_
        refine W.widen (k := C + 6) (n := S + 36) (by omega) (by omega) ?_
        exact hN κ τ g _ n H locs ls hJ hS hR (lv_sub hl [2, 3, 4, 5, 6] rfl)
      ·
        exact absurd (cmp_0 (by rw [hg hok, hv, if_pos hok, a_course _ _ hR hok.1])) c3
  ·
    exact absurd (by rw [hk]) c1
set_option maxRecDepth 100000 in
set_option maxHeartbeats 4000000 in
theorem lc_turn (hflags : l.flags = flags0) (hL : L ≤ 3072) (C0 : lw_At p s m meth c b L xs) (hi : i + 6 ≤ L) (hC : C ≤ 10000) (hSl : S ≤ 100000) (hN : lgN p l e s m below meth c b D ad md i C S) (hJ : sJ D s.heap.size (OW D ad κ f ++ MW D md rf τ) s H) (hS : va_S (fun q : Nat => s.heap.size ≤ q) s.heap H locs) (hR : sRel κ τ n) (hl : lv_has ls 7 [(0, .ref b), (1, .ref (ad 0)), (2, .ref (md 0)), (3, .ref (ad 68)), (4, .int (nI i))]) : W p l e room_1 s m #[Value.ref b] below meth c H locs C S (lw_Z below #[Value.ref b] s) (F0 m 1050 ls []) := by
  obtain ⟨hx, hb, hr, hml, hown, hts0, hX, hbl, hlk, hgv⟩ := C0
  have hts : ∀ w ∈ wsL_law, w.before #[Value.ref b] s = true := fun w h => hts0 w (wsL_law_in w h)
  have hown : s.vm.findClass RL = some m.cls := hown
  have hbA : ¬ (fun q : Nat => s.heap.size ≤ q) b := Nat.not_le.mpr hbl
  refine lv_aload_n hx hb dL_law_1050 rfl (lv_at hl 1 rfl) ?_
  refine l_arg (b := b) (L := L) (i := i) (k := 1) (xs := xs) hx hb hX hbl hbA hS hl 0 4 rfl rfl (by decide +kernel) (by omega) (by omega) dL_law_1051 dL_law_1052 dL_law_1054 dL_law_1055 dL_law_1056 ?_
  refine lv_aload_n hx hb dL_law_1057 rfl (lv_at hl 3 rfl) ?_
  refine l_help (vx_runSX (hh := [(0, 9, 12, 24)]) (As := [.ref (ad 0), .int (xs (i + 1)), .ref (ad 68)]) (rest := []) ⟨hx, hb, hml, hown, hts⟩ (h_turn l hflags D s.heap.size ad κ f H.size (xs (i + 1)) n hR.1.2.1 hR.1.1) (vx_cwSW 3 hts gL_law_L_turn rfl rfl rfl hdS_L_turn ⟨Nat.le_of_ble_eq_true rfl, Nat.le_of_ble_eq_true rfl⟩) (sPSz hJ.left) rfl rfl hl.1 rfl (lv_room (Nat.le_of_ble_eq_true rfl)) dL_law_1058 ⟨(by show C + 1 ≤ 601024; omega), (by show S + 6 ≤ 7293034; omega)⟩) hJ hS (fun k9 g H locs hk hg hJ hS => ?_)
  refine lv_istore (lv' := [(5, .int k9), (0, .ref b), (1, .ref (ad 0)), (2, .ref (md 0)), (3, .ref (ad 68)), (4, .int (nI i))]) hx hb dL_law_1061 hl (by decide) rfl (fun ls hl => ?_)
  refine lv_aload_n hx hb dL_law_1063 rfl (lv_at hl 3 rfl) ?_
  refine l_arg (b := b) (L := L) (i := i) (k := 1) (xs := xs) hx hb hX hbl hbA hS hl 1 5 rfl rfl (by decide +kernel) (by omega) (by omega) dL_law_1064 dL_law_1065 dL_law_1067 dL_law_1068 dL_law_1069 ?_
  refine l_model (va_runV (As := [.int (xs (i + 1))]) (rest := []) ⟨hx, hb, hml, hown, hts⟩ (c_X4_turn l D s.heap.size md rf τ H.size (xs (i + 1)) n hR.1.2.2.1 hR.1.1) (cwV 1 hts gL_law_X4_turn rfl rfl rfl hdV_X4_turn ⟨Nat.le_of_ble_eq_true rfl, Nat.le_of_ble_eq_true rfl⟩) (sPVz hJ.swap.left (ci := 4) (q0 := 0) rfl rfl) rfl rfl hl.1 rfl (lv_room (Nat.le_of_ble_eq_true rfl)) dL_law_1070 ⟨(by show C + 1 + 0 ≤ 601024; omega), (by show S + 6 + 0 ≤ 7293034; omega)⟩) hJ hS (fun v9 H locs hv hJ hS => ?_)
  refine lv_istore (lv' := [(6, .int v9), (5, .int k9), (0, .ref b), (1, .ref (ad 0)), (2, .ref (md 0)), (3, .ref (ad 68)), (4, .int (nI i))]) hx hb dL_law_1073 hl (by decide) rfl (fun ls hl => ?_)
  refine lv_aload_n hx hb dL_law_1075 rfl (lv_at hl 4 rfl) ?_
  refine s_ciV (As := []) (rest := []) ⟨hx, hb, hml, hown, hts⟩ (c_X4_thrown l D s.heap.size md _ _) (cwV 0 hts gL_law_X4_thrown rfl rfl rfl hdV_X4_thrown ⟨Nat.le_of_ble_eq_true rfl, Nat.le_of_ble_eq_true rfl⟩) (sPV hJ.swap.left (ci := 4) (q0 := 0) rfl rfl) rfl hl.1 rfl (Nat.le_of_ble_eq_true rfl) dL_law_1076 ⟨(by show C + 1 ≤ 601024; omega), (by show S + 6 ≤ 7293034; omega)⟩ ?_
  refine lv_iload hx hb dL_law_1079 (lv_at hl 1 rfl) ?_
  refine lv_icmp_eq (tgt := 1086) hx hb dL_law_1081 (by decide) (fun c1 => ?_) (fun c1 => ?_)
  ·
    refine lv_iload hx hb dL_law_1086 (lv_at hl 1 rfl) ?_
    refine lv_if_ne (tgt := 1103) hx hb dL_law_1088 (by decide) (fun c2 => ?_) (fun c2 => ?_)
    ·
      refine lv_goto (tgt := 1343) hx hb dL_law_1103 (by decide) ?_
      refine W.widen (k := C + 6) (n := S + 36) (by omega) (by omega) ?_
      exact hN κ τ g _ n H locs ls hJ hS hR (lv_sub hl [2, 3, 4, 5, 6] rfl)
    ·
      have hok := rE_z (hk.symm.trans c2)
      refine lv_aload_n hx hb dL_law_1091 rfl (lv_at hl 5 rfl) ?_
      refine lv_iconst (v := 0) hx hb dL_law_1092 (by decide +kernel) ?_
      refine l_out hx hb hJ dL_law_1093 ?_
      refine lv_iload hx hb dL_law_1094 (lv_at hl 0 rfl) ?_
      refine lv_i2l hx hb dL_law_1096 rfl ?_
      refine W.lcmp hx hb dL_law_1097 ?_
      refine lv_if_eq (tgt := 1103) hx hb dL_law_1098 (by decide) (fun c3 => ?_) (fun c3 => ?_)
      ·
        refine lv_goto (tgt := 1343) hx hb dL_law_1103 (by decide) ?_
        refine W.widen (k := C + 6) (n := S + 36) (by omega) (by omega) ?_
        exact hN κ τ g _ n H locs ls hJ hS hR (lv_sub hl [2, 3, 4, 5, 6] rfl)
      ·
        exact absurd (cmp_0 (by rw [hg hok, hv, if_pos (by rw [← rel_e0 hR]; exact hok), a_turn hR hok])) c3
  ·
    exact absurd (by rw [hk]; exact rE_cg (by rw [rel_e0 hR])) c1
set_option maxRecDepth 100000 in
set_option maxHeartbeats 4000000 in
theorem lc_cost (hflags : l.flags = flags0) (hL : L ≤ 3072) (C0 : lw_At p s m meth c b L xs) (hi : i + 6 ≤ L) (hC : C ≤ 10000) (hSl : S ≤ 100000) (hN : lgN p l e s m below meth c b D ad md i C S) (hJ : sJ D s.heap.size (OW D ad κ f ++ MW D md rf τ) s H) (hS : va_S (fun q : Nat => s.heap.size ≤ q) s.heap H locs) (hR : sRel κ τ n) (hl : lv_has ls 7 [(0, .ref b), (1, .ref (ad 0)), (2, .ref (md 0)), (3, .ref (ad 68)), (4, .int (nI i))]) : W p l e room_1 s m #[Value.ref b] below meth c H locs C S (lw_Z below #[Value.ref b] s) (F0 m 1106 ls []) := by
  obtain ⟨hx, hb, hr, hml, hown, hts0, hX, hbl, hlk, hgv⟩ := C0
  have hts : ∀ w ∈ wsL_law, w.before #[Value.ref b] s = true := fun w h => hts0 w (wsL_law_in w h)
  have hown : s.vm.findClass RL = some m.cls := hown
  have hbA : ¬ (fun q : Nat => s.heap.size ≤ q) b := Nat.not_le.mpr hbl
  refine lv_aload_n hx hb dL_law_1106 rfl (lv_at hl 1 rfl) ?_
  refine l_arg (b := b) (L := L) (i := i) (k := 1) (xs := xs) hx hb hX hbl hbA hS hl 0 4 rfl rfl (by decide +kernel) (by omega) (by omega) dL_law_1107 dL_law_1108 dL_law_1110 dL_law_1111 dL_law_1112 ?_
  refine lv_aload_n hx hb dL_law_1113 rfl (lv_at hl 3 rfl) ?_
  refine l_help (vx_runSX (hh := [(0, 9, 12, 24)]) (As := [.ref (ad 0), .int (xs (i + 1)), .ref (ad 68)]) (rest := []) ⟨hx, hb, hml, hown, hts⟩ (h_cost l hflags D s.heap.size ad κ f H.size (xs (i + 1)) n hR.1.2.1 hR.1.1) (vx_cwSW 3 hts gL_law_L_cost rfl rfl rfl hdS_L_cost ⟨Nat.le_of_ble_eq_true rfl, Nat.le_of_ble_eq_true rfl⟩) (sPSz hJ.left) rfl rfl hl.1 rfl (lv_room (Nat.le_of_ble_eq_true rfl)) dL_law_1114 ⟨(by show C + 1 ≤ 601024; omega), (by show S + 6 ≤ 7293034; omega)⟩) hJ hS (fun k9 g H locs hk hg hJ hS => ?_)
  refine lv_istore (lv' := [(5, .int k9), (0, .ref b), (1, .ref (ad 0)), (2, .ref (md 0)), (3, .ref (ad 68)), (4, .int (nI i))]) hx hb dL_law_1117 hl (by decide) rfl (fun ls hl => ?_)
  refine lv_aload_n hx hb dL_law_1119 rfl (lv_at hl 3 rfl) ?_
  refine l_arg (b := b) (L := L) (i := i) (k := 1) (xs := xs) hx hb hX hbl hbA hS hl 1 5 rfl rfl (by decide +kernel) (by omega) (by omega) dL_law_1120 dL_law_1121 dL_law_1123 dL_law_1124 dL_law_1125 ?_
  refine l_model (va_runV (As := [.int (xs (i + 1))]) (rest := []) ⟨hx, hb, hml, hown, hts⟩ (c_X4_cost l D s.heap.size md rf τ H.size (xs (i + 1)) n hR.1.2.2.1 hR.1.1) (cwV 1 hts gL_law_X4_cost rfl rfl rfl hdV_X4_cost ⟨Nat.le_of_ble_eq_true rfl, Nat.le_of_ble_eq_true rfl⟩) (sPVz hJ.swap.left (ci := 4) (q0 := 0) rfl rfl) rfl rfl hl.1 rfl (lv_room (Nat.le_of_ble_eq_true rfl)) dL_law_1126 ⟨(by show C + 1 + 0 ≤ 601024; omega), (by show S + 6 + 0 ≤ 7293034; omega)⟩) hJ hS (fun v9 H locs hv hJ hS => ?_)
  refine lv_istore (lv' := [(6, .int v9), (5, .int k9), (0, .ref b), (1, .ref (ad 0)), (2, .ref (md 0)), (3, .ref (ad 68)), (4, .int (nI i))]) hx hb dL_law_1129 hl (by decide) rfl (fun ls hl => ?_)
  refine lv_aload_n hx hb dL_law_1131 rfl (lv_at hl 4 rfl) ?_
  refine s_ciV (As := []) (rest := []) ⟨hx, hb, hml, hown, hts⟩ (c_X4_thrown l D s.heap.size md _ _) (cwV 0 hts gL_law_X4_thrown rfl rfl rfl hdV_X4_thrown ⟨Nat.le_of_ble_eq_true rfl, Nat.le_of_ble_eq_true rfl⟩) (sPV hJ.swap.left (ci := 4) (q0 := 0) rfl rfl) rfl hl.1 rfl (Nat.le_of_ble_eq_true rfl) dL_law_1132 ⟨(by show C + 1 ≤ 601024; omega), (by show S + 6 ≤ 7293034; omega)⟩ ?_
  refine lv_iload hx hb dL_law_1135 (lv_at hl 1 rfl) ?_
  refine lv_icmp_eq (tgt := 1142) hx hb dL_law_1137 (by decide) (fun c1 => ?_) (fun c1 => ?_)
  ·
    refine lv_iload hx hb dL_law_1142 (lv_at hl 1 rfl) ?_
    refine lv_if_ne (tgt := 1159) hx hb dL_law_1144 (by decide) (fun c2 => ?_) (fun c2 => ?_)
    ·
      refine lv_goto (tgt := 1343) hx hb dL_law_1159 (by decide) ?_
      refine W.widen (k := C + 6) (n := S + 36) (by omega) (by omega) ?_
      exact hN κ τ g _ n H locs ls hJ hS hR (lv_sub hl [2, 3, 4, 5, 6] rfl)
    ·
      have hok := rE_z (hk.symm.trans c2)
      refine lv_aload_n hx hb dL_law_1147 rfl (lv_at hl 5 rfl) ?_
      refine lv_iconst (v := 0) hx hb dL_law_1148 (by decide +kernel) ?_
      refine l_out hx hb hJ dL_law_1149 ?_
      refine lv_iload hx hb dL_law_1150 (lv_at hl 0 rfl) ?_
      refine lv_i2l hx hb dL_law_1152 rfl ?_
      refine W.lcmp hx hb dL_law_1153 ?_
      refine lv_if_eq (tgt := 1159) hx hb dL_law_1154 (by decide) (fun c3 => ?_) (fun c3 => ?_)
      ·
        refine lv_goto (tgt := 1343) hx hb dL_law_1159 (by decide) ?_
        refine W.widen (k := C + 6) (n := S + 36) (by omega) (by omega) ?_
        exact hN κ τ g _ n H locs ls hJ hS hR (lv_sub hl [2, 3, 4, 5, 6] rfl)
      ·
        exact absurd (cmp_0 (by rw [hg hok, hv, if_pos (by rw [← rel_e0 hR]; exact hok), a_cost hR hok])) c3
  ·
    exact absurd (by rw [hk]; exact rE_cg (by rw [rel_e0 hR])) c1
set_option maxRecDepth 100000 in
set_option maxHeartbeats 4000000 in
theorem lc_costs (hflags : l.flags = flags0) (hL : L ≤ 3072) (C0 : lw_At p s m meth c b L xs) (hi : i + 6 ≤ L) (hC : C ≤ 10000) (hSl : S ≤ 100000) (hN : lgN p l e s m below meth c b D ad md i C S) (hJ : sJ D s.heap.size (OW D ad κ f ++ MW D md rf τ) s H) (hS : va_S (fun q : Nat => s.heap.size ≤ q) s.heap H locs) (hR : sRel κ τ n) (hl : lv_has ls 7 [(0, .ref b), (1, .ref (ad 0)), (2, .ref (md 0)), (3, .ref (ad 68)), (4, .int (nI i))]) : W p l e room_1 s m #[Value.ref b] below meth c H locs C S (lw_Z below #[Value.ref b] s) (F0 m 1162 ls []) := by
  obtain ⟨hx, hb, hr, hml, hown, hts0, hX, hbl, hlk, hgv⟩ := C0
  have hts : ∀ w ∈ wsL_law, w.before #[Value.ref b] s = true := fun w h => hts0 w (wsL_law_in w h)
  have hown : s.vm.findClass RL = some m.cls := hown
  have hbA : ¬ (fun q : Nat => s.heap.size ≤ q) b := Nat.not_le.mpr hbl
  refine lv_aload_n hx hb dL_law_1162 rfl (lv_at hl 1 rfl) ?_
  refine l_arg (b := b) (L := L) (i := i) (k := 1) (xs := xs) hx hb hX hbl hbA hS hl 0 4 rfl rfl (by decide +kernel) (by omega) (by omega) dL_law_1163 dL_law_1164 dL_law_1166 dL_law_1167 dL_law_1168 ?_
  refine lv_aload_n hx hb dL_law_1169 rfl (lv_at hl 3 rfl) ?_
  refine l_help (vx_runSX (hh := [(0, 9, 12, 13)]) (As := [.ref (ad 0), .int (xs (i + 1)), .ref (ad 68)]) (rest := []) ⟨hx, hb, hml, hown, hts⟩ (h_costs l hflags D s.heap.size ad κ f H.size (xs (i + 1)) n hR.1.2.1 hR.1.1) (vx_cwSW 3 hts gL_law_L_costs rfl rfl rfl hdS_L_costs ⟨Nat.le_of_ble_eq_true rfl, Nat.le_of_ble_eq_true rfl⟩) (sPSz hJ.left) rfl rfl hl.1 rfl (lv_room (Nat.le_of_ble_eq_true rfl)) dL_law_1170 ⟨(by show C + 1 ≤ 601024; omega), (by show S + 6 ≤ 7293034; omega)⟩) hJ hS (fun k9 g H locs hk hg hJ hS => ?_)
  refine lv_istore (lv' := [(5, .int k9), (0, .ref b), (1, .ref (ad 0)), (2, .ref (md 0)), (3, .ref (ad 68)), (4, .int (nI i))]) hx hb dL_law_1173 hl (by decide) rfl (fun ls hl => ?_)
  refine lv_aload_n hx hb dL_law_1175 rfl (lv_at hl 3 rfl) ?_
  refine l_arg (b := b) (L := L) (i := i) (k := 1) (xs := xs) hx hb hX hbl hbA hS hl 1 5 rfl rfl (by decide +kernel) (by omega) (by omega) dL_law_1176 dL_law_1177 dL_law_1179 dL_law_1180 dL_law_1181 ?_
  refine l_model (va_runV (As := [.int (xs (i + 1))]) (rest := []) ⟨hx, hb, hml, hown, hts⟩ (c_X4_costs l D s.heap.size md rf τ H.size (xs (i + 1)) n hR.1.2.2.1 hR.1.1) (cwV 1 hts gL_law_X4_costs rfl rfl rfl hdV_X4_costs ⟨Nat.le_of_ble_eq_true rfl, Nat.le_of_ble_eq_true rfl⟩) (sPVz hJ.swap.left (ci := 4) (q0 := 0) rfl rfl) rfl rfl hl.1 rfl (lv_room (Nat.le_of_ble_eq_true rfl)) dL_law_1182 ⟨(by show C + 1 + 0 ≤ 601024; omega), (by show S + 6 + 0 ≤ 7293034; omega)⟩) hJ hS (fun v9 H locs hv hJ hS => ?_)
  refine lv_istore (lv' := [(6, .int v9), (5, .int k9), (0, .ref b), (1, .ref (ad 0)), (2, .ref (md 0)), (3, .ref (ad 68)), (4, .int (nI i))]) hx hb dL_law_1185 hl (by decide) rfl (fun ls hl => ?_)
  refine lv_aload_n hx hb dL_law_1187 rfl (lv_at hl 4 rfl) ?_
  refine s_ciV (As := []) (rest := []) ⟨hx, hb, hml, hown, hts⟩ (c_X4_thrown l D s.heap.size md _ _) (cwV 0 hts gL_law_X4_thrown rfl rfl rfl hdV_X4_thrown ⟨Nat.le_of_ble_eq_true rfl, Nat.le_of_ble_eq_true rfl⟩) (sPV hJ.swap.left (ci := 4) (q0 := 0) rfl rfl) rfl hl.1 rfl (Nat.le_of_ble_eq_true rfl) dL_law_1188 ⟨(by show C + 1 ≤ 601024; omega), (by show S + 6 ≤ 7293034; omega)⟩ ?_
  refine lv_iload hx hb dL_law_1191 (lv_at hl 1 rfl) ?_
  refine lv_icmp_eq (tgt := 1198) hx hb dL_law_1193 (by decide) (fun c1 => ?_) (fun c1 => ?_)
  ·
    refine lv_iload hx hb dL_law_1198 (lv_at hl 1 rfl) ?_
    refine lv_if_ne (tgt := 1215) hx hb dL_law_1200 (by decide) (fun c2 => ?_) (fun c2 => ?_)
    ·
      refine lv_goto (tgt := 1343) hx hb dL_law_1215 (by decide) ?_
      refine W.widen (k := C + 6) (n := S + 36) (by omega) (by omega) ?_
      exact hN κ τ g _ n H locs ls hJ hS hR (lv_sub hl [2, 3, 4, 5, 6] rfl)
    ·
      have hok := rE_z (hk.symm.trans c2)
      refine lv_aload_n hx hb dL_law_1203 rfl (lv_at hl 5 rfl) ?_
      refine lv_iconst (v := 0) hx hb dL_law_1204 (by decide +kernel) ?_
      refine l_out hx hb hJ dL_law_1205 ?_
      refine lv_iload hx hb dL_law_1206 (lv_at hl 0 rfl) ?_
      refine lv_i2l hx hb dL_law_1208 rfl ?_
      refine W.lcmp hx hb dL_law_1209 ?_
      refine lv_if_eq (tgt := 1215) hx hb dL_law_1210 (by decide) (fun c3 => ?_) (fun c3 => ?_)
      ·
        refine lv_goto (tgt := 1343) hx hb dL_law_1215 (by decide) ?_
        refine W.widen (k := C + 6) (n := S + 36) (by omega) (by omega) ?_
        exact hN κ τ g _ n H locs ls hJ hS hR (lv_sub hl [2, 3, 4, 5, 6] rfl)
      ·
        exact absurd (cmp_0 (by rw [hg hok, hv, if_pos hok, a_costs _ hR])) c3
  ·
    exact absurd (by rw [hk]) c1
set_option maxRecDepth 100000 in
set_option maxHeartbeats 4000000 in
theorem lc_east (hflags : l.flags = flags0) (hL : L ≤ 3072) (C0 : lw_At p s m meth c b L xs) (hi : i + 6 ≤ L) (hC : C ≤ 10000) (hSl : S ≤ 100000) (hN : lgN p l e s m below meth c b D ad md i C S) (hJ : sJ D s.heap.size (OW D ad κ f ++ MW D md rf τ) s H) (hS : va_S (fun q : Nat => s.heap.size ≤ q) s.heap H locs) (hR : sRel κ τ n) (hl : lv_has ls 7 [(0, .ref b), (1, .ref (ad 0)), (2, .ref (md 0)), (3, .ref (ad 68)), (4, .int (nI i))]) : W p l e room_1 s m #[Value.ref b] below meth c H locs C S (lw_Z below #[Value.ref b] s) (F0 m 1218 ls []) := by
  obtain ⟨hx, hb, hr, hml, hown, hts0, hX, hbl, hlk, hgv⟩ := C0
  have hts : ∀ w ∈ wsL_law, w.before #[Value.ref b] s = true := fun w h => hts0 w (wsL_law_in w h)
  have hown : s.vm.findClass RL = some m.cls := hown
  have hbA : ¬ (fun q : Nat => s.heap.size ≤ q) b := Nat.not_le.mpr hbl
  refine lv_aload_n hx hb dL_law_1218 rfl (lv_at hl 1 rfl) ?_
  refine l_arg (b := b) (L := L) (i := i) (k := 1) (xs := xs) hx hb hX hbl hbA hS hl 0 4 rfl rfl (by decide +kernel) (by omega) (by omega) dL_law_1219 dL_law_1220 dL_law_1222 dL_law_1223 dL_law_1224 ?_
  refine lv_aload_n hx hb dL_law_1225 rfl (lv_at hl 3 rfl) ?_
  refine l_help (vx_runSX (hh := [(0, 9, 12, 24)]) (As := [.ref (ad 0), .int (xs (i + 1)), .ref (ad 68)]) (rest := []) ⟨hx, hb, hml, hown, hts⟩ (h_east l hflags D s.heap.size ad κ f H.size (xs (i + 1)) n hR.1.2.1 hR.1.1 (rel_mi hR)) (vx_cwSW 3 hts gL_law_L_east rfl rfl rfl hdS_L_east ⟨Nat.le_of_ble_eq_true rfl, Nat.le_of_ble_eq_true rfl⟩) (sPSz hJ.left) rfl rfl hl.1 rfl (lv_room (Nat.le_of_ble_eq_true rfl)) dL_law_1226 ⟨(by show C + 1 ≤ 601024; omega), (by show S + 6 ≤ 7293034; omega)⟩) hJ hS (fun k9 g H locs hk hg hJ hS => ?_)
  refine lv_istore (lv' := [(5, .int k9), (0, .ref b), (1, .ref (ad 0)), (2, .ref (md 0)), (3, .ref (ad 68)), (4, .int (nI i))]) hx hb dL_law_1229 hl (by decide) rfl (fun ls hl => ?_)
  refine lv_aload_n hx hb dL_law_1231 rfl (lv_at hl 3 rfl) ?_
  refine l_arg (b := b) (L := L) (i := i) (k := 1) (xs := xs) hx hb hX hbl hbA hS hl 1 5 rfl rfl (by decide +kernel) (by omega) (by omega) dL_law_1232 dL_law_1233 dL_law_1235 dL_law_1236 dL_law_1237 ?_
  refine l_model (va_runV (As := [.int (xs (i + 1))]) (rest := []) ⟨hx, hb, hml, hown, hts⟩ (c_X4_east l D s.heap.size md rf τ H.size (xs (i + 1)) n hR.1.2.2.1 hR.1.1 (fun i hi => (rel_O hR i hi).1)) (cwV 1 hts gL_law_X4_east rfl rfl rfl hdV_X4_east ⟨Nat.le_of_ble_eq_true rfl, Nat.le_of_ble_eq_true rfl⟩) (sPVz hJ.swap.left (ci := 4) (q0 := 0) rfl rfl) rfl rfl hl.1 rfl (lv_room (Nat.le_of_ble_eq_true rfl)) dL_law_1238 ⟨(by show C + 1 + 0 ≤ 601024; omega), (by show S + 6 + 0 ≤ 7293034; omega)⟩) hJ hS (fun v9 H locs hv hJ hS => ?_)
  refine lv_istore (lv' := [(6, .int v9), (5, .int k9), (0, .ref b), (1, .ref (ad 0)), (2, .ref (md 0)), (3, .ref (ad 68)), (4, .int (nI i))]) hx hb dL_law_1241 hl (by decide) rfl (fun ls hl => ?_)
  refine lv_aload_n hx hb dL_law_1243 rfl (lv_at hl 4 rfl) ?_
  refine s_ciV (As := []) (rest := []) ⟨hx, hb, hml, hown, hts⟩ (c_X4_thrown l D s.heap.size md _ _) (cwV 0 hts gL_law_X4_thrown rfl rfl rfl hdV_X4_thrown ⟨Nat.le_of_ble_eq_true rfl, Nat.le_of_ble_eq_true rfl⟩) (sPV hJ.swap.left (ci := 4) (q0 := 0) rfl rfl) rfl hl.1 rfl (Nat.le_of_ble_eq_true rfl) dL_law_1244 ⟨(by show C + 1 ≤ 601024; omega), (by show S + 6 ≤ 7293034; omega)⟩ ?_
  refine lv_iload hx hb dL_law_1247 (lv_at hl 1 rfl) ?_
  refine lv_icmp_eq (tgt := 1254) hx hb dL_law_1249 (by decide) (fun c1 => ?_) (fun c1 => ?_)
  ·
    refine lv_iload hx hb dL_law_1254 (lv_at hl 1 rfl) ?_
    refine lv_if_ne (tgt := 1271) hx hb dL_law_1256 (by decide) (fun c2 => ?_) (fun c2 => ?_)
    ·
      refine lv_goto (tgt := 1343) hx hb dL_law_1271 (by decide) ?_
      refine W.widen (k := C + 6) (n := S + 36) (by omega) (by omega) ?_
      exact hN κ τ g _ n H locs ls hJ hS hR (lv_sub hl [2, 3, 4, 5, 6] rfl)
    ·
      have hok := rE_z (hk.symm.trans c2)
      refine lv_aload_n hx hb dL_law_1259 rfl (lv_at hl 5 rfl) ?_
      refine lv_iconst (v := 0) hx hb dL_law_1260 (by decide +kernel) ?_
      refine l_out hx hb hJ dL_law_1261 ?_
      refine lv_iload hx hb dL_law_1262 (lv_at hl 0 rfl) ?_
      refine lv_i2l hx hb dL_law_1264 rfl ?_
      refine W.lcmp hx hb dL_law_1265 ?_
      refine lv_if_eq (tgt := 1271) hx hb dL_law_1266 (by decide) (fun c3 => ?_) (fun c3 => ?_)
      ·
        refine lv_goto (tgt := 1343) hx hb dL_law_1271 (by decide) ?_
        refine W.widen (k := C + 6) (n := S + 36) (by omega) (by omega) ?_
        exact hN κ τ g _ n H locs ls hJ hS hR (lv_sub hl [2, 3, 4, 5, 6] rfl)
      ·
        exact absurd (cmp_0 (by rw [hg hok, hv, if_pos (by rw [← rel_e0 hR]; exact hok), a_way _ hR hok])) c3
  ·
    exact absurd (by rw [hk]; exact rE_cg (by rw [rel_e0 hR])) c1
set_option maxRecDepth 100000 in
set_option maxHeartbeats 4000000 in
theorem lc_north (hflags : l.flags = flags0) (hL : L ≤ 3072) (C0 : lw_At p s m meth c b L xs) (hi : i + 6 ≤ L) (hC : C ≤ 10000) (hSl : S ≤ 100000) (hN : lgN p l e s m below meth c b D ad md i C S) (hJ : sJ D s.heap.size (OW D ad κ f ++ MW D md rf τ) s H) (hS : va_S (fun q : Nat => s.heap.size ≤ q) s.heap H locs) (hR : sRel κ τ n) (hl : lv_has ls 7 [(0, .ref b), (1, .ref (ad 0)), (2, .ref (md 0)), (3, .ref (ad 68)), (4, .int (nI i))]) : W p l e room_1 s m #[Value.ref b] below meth c H locs C S (lw_Z below #[Value.ref b] s) (F0 m 1274 ls []) := by
  obtain ⟨hx, hb, hr, hml, hown, hts0, hX, hbl, hlk, hgv⟩ := C0
  have hts : ∀ w ∈ wsL_law, w.before #[Value.ref b] s = true := fun w h => hts0 w (wsL_law_in w h)
  have hown : s.vm.findClass RL = some m.cls := hown
  have hbA : ¬ (fun q : Nat => s.heap.size ≤ q) b := Nat.not_le.mpr hbl
  refine lv_aload_n hx hb dL_law_1274 rfl (lv_at hl 1 rfl) ?_
  refine l_arg (b := b) (L := L) (i := i) (k := 1) (xs := xs) hx hb hX hbl hbA hS hl 0 4 rfl rfl (by decide +kernel) (by omega) (by omega) dL_law_1275 dL_law_1276 dL_law_1278 dL_law_1279 dL_law_1280 ?_
  refine lv_aload_n hx hb dL_law_1281 rfl (lv_at hl 3 rfl) ?_
  refine l_help (vx_runSX (hh := [(0, 9, 12, 24)]) (As := [.ref (ad 0), .int (xs (i + 1)), .ref (ad 68)]) (rest := []) ⟨hx, hb, hml, hown, hts⟩ (h_north l hflags D s.heap.size ad κ f H.size (xs (i + 1)) n hR.1.2.1 hR.1.1 (rel_mi hR)) (vx_cwSW 3 hts gL_law_L_north rfl rfl rfl hdS_L_north ⟨Nat.le_of_ble_eq_true rfl, Nat.le_of_ble_eq_true rfl⟩) (sPSz hJ.left) rfl rfl hl.1 rfl (lv_room (Nat.le_of_ble_eq_true rfl)) dL_law_1282 ⟨(by show C + 1 ≤ 601024; omega), (by show S + 6 ≤ 7293034; omega)⟩) hJ hS (fun k9 g H locs hk hg hJ hS => ?_)
  refine lv_istore (lv' := [(5, .int k9), (0, .ref b), (1, .ref (ad 0)), (2, .ref (md 0)), (3, .ref (ad 68)), (4, .int (nI i))]) hx hb dL_law_1285 hl (by decide) rfl (fun ls hl => ?_)
  refine lv_aload_n hx hb dL_law_1287 rfl (lv_at hl 3 rfl) ?_
  refine l_arg (b := b) (L := L) (i := i) (k := 1) (xs := xs) hx hb hX hbl hbA hS hl 1 5 rfl rfl (by decide +kernel) (by omega) (by omega) dL_law_1288 dL_law_1289 dL_law_1291 dL_law_1292 dL_law_1293 ?_
  refine l_model (va_runV (As := [.int (xs (i + 1))]) (rest := []) ⟨hx, hb, hml, hown, hts⟩ (c_X4_north l D s.heap.size md rf τ H.size (xs (i + 1)) n hR.1.2.2.1 hR.1.1 (fun i hi => (rel_O hR i hi).1)) (cwV 1 hts gL_law_X4_north rfl rfl rfl hdV_X4_north ⟨Nat.le_of_ble_eq_true rfl, Nat.le_of_ble_eq_true rfl⟩) (sPVz hJ.swap.left (ci := 4) (q0 := 0) rfl rfl) rfl rfl hl.1 rfl (lv_room (Nat.le_of_ble_eq_true rfl)) dL_law_1294 ⟨(by show C + 1 + 0 ≤ 601024; omega), (by show S + 6 + 0 ≤ 7293034; omega)⟩) hJ hS (fun v9 H locs hv hJ hS => ?_)
  refine lv_istore (lv' := [(6, .int v9), (5, .int k9), (0, .ref b), (1, .ref (ad 0)), (2, .ref (md 0)), (3, .ref (ad 68)), (4, .int (nI i))]) hx hb dL_law_1297 hl (by decide) rfl (fun ls hl => ?_)
  refine lv_aload_n hx hb dL_law_1299 rfl (lv_at hl 4 rfl) ?_
  refine s_ciV (As := []) (rest := []) ⟨hx, hb, hml, hown, hts⟩ (c_X4_thrown l D s.heap.size md _ _) (cwV 0 hts gL_law_X4_thrown rfl rfl rfl hdV_X4_thrown ⟨Nat.le_of_ble_eq_true rfl, Nat.le_of_ble_eq_true rfl⟩) (sPV hJ.swap.left (ci := 4) (q0 := 0) rfl rfl) rfl hl.1 rfl (Nat.le_of_ble_eq_true rfl) dL_law_1300 ⟨(by show C + 1 ≤ 601024; omega), (by show S + 6 ≤ 7293034; omega)⟩ ?_
  refine lv_iload hx hb dL_law_1303 (lv_at hl 1 rfl) ?_
  refine lv_icmp_eq (tgt := 1310) hx hb dL_law_1305 (by decide) (fun c1 => ?_) (fun c1 => ?_)
  ·
    refine lv_iload hx hb dL_law_1310 (lv_at hl 1 rfl) ?_
    refine lv_if_ne (tgt := 1327) hx hb dL_law_1312 (by decide) (fun c2 => ?_) (fun c2 => ?_)
    ·
      refine lv_goto (tgt := 1343) hx hb dL_law_1327 (by decide) ?_
      refine W.widen (k := C + 6) (n := S + 36) (by omega) (by omega) ?_
      exact hN κ τ g _ n H locs ls hJ hS hR (lv_sub hl [2, 3, 4, 5, 6] rfl)
    ·
      have hok := rE_z (hk.symm.trans c2)
      refine lv_aload_n hx hb dL_law_1315 rfl (lv_at hl 5 rfl) ?_
      refine lv_iconst (v := 0) hx hb dL_law_1316 (by decide +kernel) ?_
      refine l_out hx hb hJ dL_law_1317 ?_
      refine lv_iload hx hb dL_law_1318 (lv_at hl 0 rfl) ?_
      refine lv_i2l hx hb dL_law_1320 rfl ?_
      refine W.lcmp hx hb dL_law_1321 ?_
      refine lv_if_eq (tgt := 1327) hx hb dL_law_1322 (by decide) (fun c3 => ?_) (fun c3 => ?_)
      ·
        refine lv_goto (tgt := 1343) hx hb dL_law_1327 (by decide) ?_
        refine W.widen (k := C + 6) (n := S + 36) (by omega) (by omega) ?_
        exact hN κ τ g _ n H locs ls hJ hS hR (lv_sub hl [2, 3, 4, 5, 6] rfl)
      ·
        exact absurd (cmp_0 (by rw [hg hok, hv, if_pos (by rw [← rel_e0 hR]; exact hok), a_way _ hR hok])) c3
  ·
    exact absurd (by rw [hk]; exact rE_cg (by rw [rel_e0 hR])) c1
set_option maxRecDepth 100000 in
set_option maxHeartbeats 4000000 in
theorem lc_vaneShown (hflags : l.flags = flags0) (hL : L ≤ 3072) (C0 : lw_At p s m meth c b L xs) (hi : i + 6 ≤ L) (hC : C ≤ 10000) (hSl : S ≤ 100000) (hN : lgN p l e s m below meth c b D ad md i C S) (hJ : sJ D s.heap.size (OW D ad κ f ++ MW D md rf τ) s H) (hS : va_S (fun q : Nat => s.heap.size ≤ q) s.heap H locs) (hR : sRel κ τ n) (hl : lv_has ls 7 [(0, .ref b), (1, .ref (ad 0)), (2, .ref (md 0)), (3, .ref (ad 68)), (4, .int (nI i))]) : W p l e room_1 s m #[Value.ref b] below meth c H locs C S (lw_Z below #[Value.ref b] s) (F0 m 1330 ls []) := by
  obtain ⟨hx, hb, hr, hml, hown, hts0, hX, hbl, hlk, hgv⟩ := C0
  have hts : ∀ w ∈ wsL_law, w.before #[Value.ref b] s = true := fun w h => hts0 w (wsL_law_in w h)
  have hown : s.vm.findClass RL = some m.cls := hown
  have hbA : ¬ (fun q : Nat => s.heap.size ≤ q) b := Nat.not_le.mpr hbl
  refine lv_aload_n hx hb dL_law_1330 rfl (lv_at hl 1 rfl) ?_
  have hJ3 : sJ D s.heap.size (CW D ad κ) s H := sJ.left (b := [(ad 68, .inl (D.2.2.2.1, 1, .inr (.inl f)))]) hJ.left
  refine s_ciV (As := []) (rest := []) ⟨hx, hb, hml, hown, hts⟩ (c_X3_vaneShown l D s.heap.size ad κ n hR.1.2.1 hR.1.1) (cwV 0 hts gL_law_X3_vaneShown rfl rfl rfl hdV_X3_vaneShown ⟨Nat.le_of_ble_eq_true rfl, Nat.le_of_ble_eq_true rfl⟩) (sPV hJ3 (ci := 3) (q0 := 0) rfl rfl) rfl hl.1 rfl (Nat.le_of_ble_eq_true rfl) dL_law_1331 ⟨(by show C ≤ 601024; omega), (by show S ≤ 7293034; omega)⟩ ?_
  refine lv_aload_n hx hb dL_law_1334 rfl (lv_at hl 2 rfl) ?_
  refine l_model (va_runV (As := []) (rest := [.int (vnF (κ 12) n)]) ⟨hx, hb, hml, hown, hts⟩ (c_X4_vaneShown l D s.heap.size md rf τ H.size n hR.1.2.2.1 hR.1.1) (cwV 0 hts gL_law_X4_vaneShown rfl rfl rfl hdV_X4_vaneShown ⟨Nat.le_of_ble_eq_true rfl, Nat.le_of_ble_eq_true rfl⟩) (sPVz hJ.swap.left (ci := 4) (q0 := 0) rfl rfl) rfl rfl hl.1 rfl (lv_room (Nat.le_of_ble_eq_true rfl)) dL_law_1335 ⟨(by show C + 0 ≤ 601024; omega), (by show S + 0 ≤ 7293034; omega)⟩) hJ hS (fun v9 H locs hv hJ hS => ?_)
  refine lv_icmp_eq (tgt := 1343) hx hb dL_law_1338 (by decide) (fun c1 => ?_) (fun c1 => ?_)
  ·
    refine W.widen (k := C + 6) (n := S + 36) (by omega) (by omega) ?_
    exact hN κ τ f _ n H locs ls hJ hS hR (lv_sub hl [0, 1, 2, 3, 4] rfl)
  ·
    exact absurd (by rw [hv]; exact a_vane hR) c1
end SCasesC
