/-! ===== the two sides answer the same ===== -/
section SAns
theorem rel_e0 {κ τ : sQ} {n : Nat} (h : sRel κ τ n) : κ 0 0 = τ 0 0 := h.1.2.1.trans h.1.2.2.1.symm
theorem rel_in {κ τ : sQ} {n : Nat} {x : Int32} (h : sRel κ τ n) (hx : 0 ≤ x ∧ x ≤ κ 0 0 - 1) : iN x < n := (ent_ok hx h.1.2.1 h.1.1).2
theorem rel_R {κ τ : sQ} {n : Nat} (h : sRel κ τ n) : relR κ τ n := h.2.2.2.1
theorem rel_E {κ τ : sQ} {n : Nat} (h : sRel κ τ n) : relE κ τ n := h.2.2.1
theorem rel_O {κ τ : sQ} {n : Nat} (h : sRel κ τ n) : relO τ n := h.2.2.2.2.1
theorem rel_tOk {κ τ : sQ} {n : Nat} (h : sRel κ τ n) : ∀ i, i < n → tOk τ i := fun i hi => ⟨(rel_O h i hi).2.1, (rel_O h i hi).2.2, h.1.2.2.2.2.2.2⟩
theorem rel_kOk {κ τ : sQ} {n : Nat} (h : sRel κ τ n) : ∀ i, i < n → (0 ≤ κ 5 i ∧ κ 5 i ≤ 300) ∧ (0 ≤ κ 7 i ∧ κ 7 i ≤ 600) := fun i hi => by
  obtain ⟨-, e2, -, e4, -⟩ := rel_E h i hi
  rw [e2, e4]
  exact (rel_O h i hi).2
theorem rel_mi {κ τ : sQ} {n : Nat} (h : sRel κ τ n) : ∀ i, i < n → ∃ k, k < 1440 ∧ κ 4 i = nI k := fun i hi => by
  rw [(rel_E h i hi).1]
  exact (rel_O h i hi).1
theorem rel_fa {κ τ : sQ} {n : Nat} (h : sRel κ τ n) : 500 ≤ κ 0 1 ∧ κ 0 1 ≤ 1500 := by
  rw [h.1.2.2.2.1]
  exact h.1.2.2.2.2.2.2
theorem a_speed {κ τ : sQ} {n : Nat} {x : Int32} (h : sRel κ τ n) (hx : 0 ≤ x ∧ x ≤ κ 0 0 - 1) : κ 9 (iN x) = tSp τ (iN x) := (rel_R h _ (rel_in h hx)).1
theorem a_strength {κ τ : sQ} {n : Nat} {x : Int32} (h : sRel κ τ n) (hx : 0 ≤ x ∧ x ≤ κ 0 0 - 1) : κ 11 (iN x) = tWs τ (iN x) := (rel_R h _ (rel_in h hx)).2.2.1
theorem a_angle {κ τ : sQ} {n : Nat} {x : Int32} (h : sRel κ τ n) (hx : 0 ≤ x ∧ x ≤ κ 0 0 - 1) : κ 12 (iN x) = tWa τ (iN x) := (rel_R h _ (rel_in h hx)).2.2.2
theorem a_side {κ τ : sQ} {n : Nat} {x : Int32} (h : sRel κ τ n) (hx : 0 ≤ x ∧ x ≤ κ 0 0 - 1) : sdI (κ 12 (iN x)) = sdI (tWa τ (iN x)) := by rw [a_angle h hx]
theorem a_from {κ τ : sQ} {n : Nat} {x : Int32} (h : sRel κ τ n) (hx : 0 ≤ x ∧ x ≤ κ 0 0 - 1) : t360 (κ 10 (iN x) + κ 12 (iN x)) = t360 (tHd τ (iN x) + tWa τ (iN x)) := by rw [a_angle h hx, (rel_R h _ (rel_in h hx)).2.1]
theorem rel_cg {κ τ : sQ} {n : Nat} (h : sRel κ τ n) : ∀ i, i < n → κ 9 i = tSp τ i ∧ κ 11 i = tWs τ i ∧ κ 12 i = tWa τ i := fun i hi => ⟨(rel_R h i hi).1, (rel_R h i hi).2.2.1, (rel_R h i hi).2.2.2⟩
theorem rel_cg2 {κ τ : sQ} {n : Nat} (h : sRel κ τ n) : ∀ i, i < n → κ 12 i = tWa τ i ∧ κ 4 i = τ 1 i ∧ κ 9 i = tSp τ i := fun i hi => ⟨(rel_R h i hi).2.2.2, (rel_E h i hi).1, (rel_R h i hi).1⟩
theorem a_byLog {κ τ : sQ} {n : Nat} (h : sRel κ τ n) (x y : Int32) : fmx (κ 9) (κ 11) (κ 12) x y n = fmx (tSp τ) (tWs τ) (tWa τ) x y n := fmx_cg n (rel_cg h)
theorem a_cell {κ τ : sQ} {n r c : Nat} (h : sRel κ τ n) (hr : r < 19) (hc : c < 10) : κ 1 (r * 10 + c) = fmx (tSp τ) (tWs τ) (tWa τ) (nI r) (nI c) n := (h.2.2.2.2.2 r c hr hc).trans (a_byLog h _ _)
theorem a_best {κ τ : sQ} {n : Nat} {x y : Int32} (h : sRel κ τ n) (hx : 0 ≤ x ∧ x ≤ 18) (hy : 0 ≤ y ∧ y ≤ 9) : κ 1 (iN x * 10 + iN y) = fmx (tSp τ) (tWs τ) (tWa τ) x y n := by
  obtain ⟨e1, l1⟩ := rng_ok 18 (by decide +kernel) (by omega) hx
  obtain ⟨e2, l2⟩ := rng_ok 9 (by decide +kernel) (by omega) hy
  rw [a_cell h l1 l2, ← e1, ← e2]
theorem a_up {κ τ : sQ} {n : Nat} {x : Int32} (h : sRel κ τ n) (hx : 0 ≤ x ∧ x ≤ 9) : (upB (fun r => 1 * κ 1 (r * 10 + iN x) * cs (midI (nI r))) 0 9).1 = (upB (fun r => fmx (tSp τ) (tWs τ) (tWa τ) (nI r) x n * cs (midI (nI r))) 0 9).1 := by
  obtain ⟨e2, l2⟩ := rng_ok 9 (by decide +kernel) (by omega) hx
  rw [upB_cg 9 (fun i hi => ?_)]
  show 1 * κ 1 ((0 + i) * 10 + iN x) * _ = _
  rw [Int32.one_mul, a_cell h (by omega) l2, ← e2]
theorem fmx_bd {τ : sQ} {n : Nat} (hk : ∀ i, i < n → tOk τ i) (ws wa : Nat → Int32) (r c : Int32) : 0 ≤ (fmx (tSp τ) ws wa r c n).toInt ∧ (fmx (tSp τ) ws wa r c n).toInt ≤ 450 := by
  revert hk
  induction n with
  | zero => intro _; exact ⟨(by decide +kernel : 0 ≤ (0 : Int32).toInt), (by decide +kernel : (0 : Int32).toInt ≤ 450)⟩
  | succ n ih =>
    intro hk
    have i1 := ih (fun i hi => hk i (by omega))
    have i2 := wSp_b (hk n (by omega)).1 (hk n (by omega)).2.2
    rw [fmx]
    split
    · split
      · exact i2
      · exact i1
    · exact i1
theorem up_dn (g : Nat → Int32) (lo : Nat) (hb : ∀ i, -1000000 ≤ (g i).toInt ∧ (g i).toInt ≤ 1000000) : ∀ j, upB (fun i => -g i) lo j = ((dnB g lo j).1, -(dnB g lo j).2) ∧ -1000000 ≤ (dnB g lo j).2.toInt ∧ (dnB g lo j).2.toInt ≤ 1000000 := by
  intro j
  induction j with
  | zero => exact ⟨(by decide +kernel : ((-1 : Int32), (0 : Int32)) = (-1, -0)), (by decide +kernel : -1000000 ≤ (0 : Int32).toInt), (by decide +kernel : (0 : Int32).toInt ≤ 1000000)⟩
  | succ j ih =>
    obtain ⟨e, b1, b2⟩ := ih
    obtain ⟨c1, c2⟩ := hb (lo + j)
    have hiff : -(dnB g lo j).2 < -g (lo + j) ↔ g (lo + j) < (dnB g lo j).2 := by
      rw [i32_lt, i32_lt, i32_neg (by omega), i32_neg (by omega)]
      omega
    rw [upB, dnB, e]
    by_cases q : g (lo + j) < (dnB g lo j).2
    · rw [if_pos (hiff.mpr q), if_pos q]
      exact ⟨rfl, c1, c2⟩
    · rw [if_neg (fun z => q (hiff.mp z)), if_neg q]
      exact ⟨rfl, b1, b2⟩
theorem dn_gen (g g' : Nat → Int32) (hb : ∀ i, -1000000 ≤ (g i).toInt ∧ (g i).toInt ≤ 1000000) (lo j : Nat) (h : ∀ i, i < j → g' (lo + i) = -g (lo + i)) : (upB g' lo j).1 = (dnB g lo j).1 := by
  rw [upB_cg (g := g') (g' := fun i => -g i) j h, (up_dn g lo hb j).1]
theorem down_bd {κ τ : sQ} {n : Nat} (h : sRel κ τ n) (x : Int32) (i : Nat) : -1000000 ≤ (fmx (tSp τ) (tWs τ) (tWa τ) (nI i) x n * cs (midI (nI i))).toInt ∧ (fmx (tSp τ) (tWs τ) (tWa τ) (nI i) x n * cs (midI (nI i))).toInt ≤ 1000000 := by
  have b1 := fmx_bd (rel_tOk h) (tWs τ) (tWa τ) (nI i) x
  have b2 := cs_b (midI (nI i))
  have b3 := mul_bd2 (X := (fmx (tSp τ) (tWs τ) (tWa τ) (nI i) x n).toInt) (c := (cs (midI (nI i))).toInt) (M := 450) (N := 1000) (by omega) b2 (by omega) (by omega)
  rw [i32_mul (by omega) (by omega)]
  omega
theorem down_eq {κ τ : sQ} {n : Nat} {x : Int32} (h : sRel κ τ n) (hx : 0 ≤ x ∧ x ≤ 9) (r : Nat) (hr : r < 19) : (-1) * κ 1 (r * 10 + iN x) * cs (midI (nI r)) = -(fmx (tSp τ) (tWs τ) (tWa τ) (nI r) x n * cs (midI (nI r))) := by
  obtain ⟨e2, l2⟩ := rng_ok 9 (by decide +kernel) (by omega) hx
  rw [Int32.neg_mul, Int32.one_mul, Int32.neg_mul, a_cell h hr l2, ← e2]
theorem a_down {κ τ : sQ} {n : Nat} {x : Int32} (h : sRel κ τ n) (hx : 0 ≤ x ∧ x ≤ 9) : (upB (fun r => (-1) * κ 1 (r * 10 + iN x) * cs (midI (nI r))) 9 10).1 = (dnB (fun r => fmx (tSp τ) (tWs τ) (tWa τ) (nI r) x n * cs (midI (nI r))) 9 10).1 := dn_gen _ _ (fun i => down_bd h x i) 9 10 (fun i hi => down_eq h hx (9 + i) (by omega))
theorem a_course {κ τ : sQ} {n : Nat} {x : Int32} (f b : Int32) (h : sRel κ τ n) (hx : 0 ≤ x ∧ x ≤ 9) : (upB (fun h => κ 1 (rN (t360 (f + -(nI h))) * 10 + iN x) * cs (nI h - b)) 0 360).1 = (upB (fun h => fmx (tSp τ) (tWs τ) (tWa τ) (rowI (t360 (f - nI h))) x n * cs (nI h - b)) 0 360).1 := by
  obtain ⟨e2, l2⟩ := rng_ok 9 (by decide +kernel) (by omega) hx
  rw [upB_cg 360 (fun i hi => ?_)]
  obtain ⟨r1, r2⟩ := rN_k (x := t360 (f - nI (0 + i))) ⟨k360 (f - nI (0 + i)), k360_lt _, rfl⟩
  show κ 1 (rN (t360 (f + -(nI (0 + i)))) * 10 + iN x) * _ = fmx _ _ _ (rowI (t360 (f - nI (0 + i)))) x n * _
  rw [← Int32.sub_eq_add_neg, a_cell h r2 l2, ← e2, ← r1]
theorem a_turn {κ τ : sQ} {n : Nat} {x : Int32} (h : sRel κ τ n) (hx : 0 ≤ x ∧ x ≤ κ 0 0 - 1) : kindF (κ 12) (iN x) = kindF (tWa τ) (iN x) := kind_cg (fun i hi => (rel_R h i hi).2.2.2) (rel_in h hx)
theorem a_cost {κ τ : sQ} {n : Nat} {x : Int32} (h : sRel κ τ n) (hx : 0 ≤ x ∧ x ≤ κ 0 0 - 1) : lossF (κ 12) (κ 4) (κ 9) n (iN x) = lossF (tWa τ) (τ 1) (tSp τ) n (iN x) := loss_cg (rel_cg2 h) (rel_in h hx)
theorem a_costs {κ τ : sQ} {n : Nat} (x : Int32) (h : sRel κ τ n) : costF (κ 12) (κ 4) (κ 9) n x n = costF (tWa τ) (τ 1) (tSp τ) n x n := cost_cg (rel_cg2 h) n (Nat.le_refl _)
/-! ways -/
theorem tdiv_neg {z d : Int} (hz : z < 0) : z.tdiv d = -((-z).tdiv d) := by
  have := Int.neg_tdiv (-z) d
  rw [Int.neg_neg] at this
  exact this
theorem fd6_wD {x : Int64} (h1 : -1000000000000 ≤ x.toInt) (h2 : x.toInt ≤ 1000000000000) : fd6 x = wD x := by
  unfold fd6 wD
  by_cases h : 0 ≤ x
  · rw [if_pos h, if_neg (by rw [i64_lt]; rw [i64_le] at h; omega)]
  · have hz : x.toInt < 0 := by
      rw [i64_le] at h
      have e : (0 : Int64).toInt = 0 := by decide +kernel
      omega
    have c6 : (6000 : Int64).toInt = 6000 := by decide +kernel
    have c9 : (5999 : Int64).toInt = 5999 := by decide +kernel
    have c1 : (1 : Int64).toInt = 1 := by decide +kernel
    have q1 : (x / 6000).toInt = -((-x.toInt) / 6000) := by
      rw [i64_div (by rw [c6]; omega), c6, tdiv_neg hz, Int.tdiv_eq_ediv_of_nonneg (by omega)]
    have q2 : ((5999 - x) / 6000).toInt = (5999 - x.toInt) / 6000 := by
      rw [i64_div (by rw [c6]; omega), c6, i64_sub (by omega) (by omega), c9, Int.tdiv_eq_ediv_of_nonneg (by omega)]
    have hx0 : x < 0 := by
      rw [i64_lt]
      have e : (0 : Int64).toInt = 0 := by decide +kernel
      omega
    rw [if_neg h, if_pos hx0]
    have q3 : (x / 6000 * 6000).toInt = -((-x.toInt) / 6000) * 6000 := by rw [i64_mul (by rw [q1, c6]; omega) (by rw [q1, c6]; omega), q1, c6]
    apply i64_ext
    rw [i64_neg (by rw [q2]; omega), q2]
    by_cases e : x / 6000 * 6000 = x
    · rw [if_pos e, q1]
      have := congrArg Int64.toInt e
      rw [q3] at this
      omega
    · rw [if_neg e, i64_sub (by rw [q1, c1]; omega) (by rw [q1, c1]; omega), q1, c1]
      have : ¬ -((-x.toInt) / 6000) * 6000 = x.toInt := fun z => e (i64_ext (by rw [q3]; exact z))
      omega
theorem way_bd {mi sp hd di dr : Nat → Int32} {t : Int32} {n : Nat} (hm : ∀ i, i < n → ∃ k, k < 1440 ∧ mi i = nI k) (hs : ∀ i, i < n → 0 ≤ (sp i).toInt ∧ (sp i).toInt ≤ 450) (hd' : ∀ j, j < 24 → 0 ≤ (dr j).toInt ∧ (dr j).toInt ≤ 100) (hn : n ≤ 60) : ∀ k : Nat, k < n → -(k * 800000000 : Int) ≤ (wayS mi sp hd di dr t k).toInt ∧ (wayS mi sp hd di dr t k).toInt ≤ (k * 800000000 : Int) := by
  intro k
  induction k with
  | zero => intro _; exact ⟨(by decide +kernel : -((0 : Nat) * 800000000 : Int) ≤ (0 : Int64).toInt), (by decide +kernel : (0 : Int64).toInt ≤ ((0 : Nat) * 800000000 : Int))⟩
  | succ k ih =>
    intro hk
    have i1 := ih (by omega)
    obtain ⟨a, ha, ea⟩ := hm k (by omega)
    obtain ⟨b, hb, eb⟩ := hm (k + 1) hk
    have l24 := (hN_ok (hm k (by omega))).2
    have b1 := hs k (by omega)
    have b2 := sn_b (hd k + t)
    have b3 := hd' _ l24
    have b4 := sn_b (di (hN (mi k)) + t)
    have d1 : (mi (k + 1) - mi k).toInt = (b : Int) - a := by rw [ea, eb, i32_sub (by rw [nI_toInt (by omega), nI_toInt (by omega)]; omega) (by rw [nI_toInt (by omega), nI_toInt (by omega)]; omega), nI_toInt (by omega), nI_toInt (by omega)]
    have m1 := mul_bd2 (X := (sp k).toInt) (c := (sn (hd k + t)).toInt) (M := 450) (N := 1000) (by omega) b2 (by omega) (by omega)
    have m2 := mul_bd2 (X := (dr (hN (mi k))).toInt) (c := (sn (di (hN (mi k)) + t)).toInt) (M := 100) (N := 1000) (by omega) b4 (by omega) (by omega)
    have p1 : ((sp k).toInt64 * (sn (hd k + t)).toInt64).toInt = (sp k).toInt * (sn (hd k + t)).toInt := by rw [i64_mul (by rw [i64_w, i64_w]; omega) (by rw [i64_w, i64_w]; omega), i64_w, i64_w]
    have p2 : ((dr (hN (mi k))).toInt64 * (sn (di (hN (mi k)) + t)).toInt64).toInt = (dr (hN (mi k))).toInt * (sn (di (hN (mi k)) + t)).toInt := by rw [i64_mul (by rw [i64_w, i64_w]; omega) (by rw [i64_w, i64_w]; omega), i64_w, i64_w]
    rw [wayS]
    generalize (sp k).toInt64 * (sn (hd k + t)).toInt64 = P at p1 ⊢
    generalize (dr (hN (mi k))).toInt64 * (sn (di (hN (mi k)) + t)).toInt64 = R at p2 ⊢
    have p3 : (P + R).toInt = P.toInt + R.toInt := i64_add (by omega) (by omega)
    generalize P + R = S at p3 ⊢
    have m3 := mul_bd2 (X := S.toInt) (c := (mi (k + 1) - mi k).toInt) (M := 550000) (N := 1439) (by omega) (by omega) (by omega) (by omega)
    have p4 : (S * (mi (k + 1) - mi k).toInt64).toInt = S.toInt * (mi (k + 1) - mi k).toInt := by rw [i64_mul (by rw [i64_w]; omega) (by rw [i64_w]; omega), i64_w]
    generalize S * (mi (k + 1) - mi k).toInt64 = T at p4 ⊢
    rw [i64_add (by omega) (by omega)]
    omega
theorem a_way {κ τ : sQ} {n : Nat} {x : Int32} (t : Int32) (h : sRel κ τ n) (hx : 0 ≤ x ∧ x ≤ κ 0 0 - 1) : (fd6 (wayS (κ 4) (κ 9) (κ 10) (κ 2) (κ 3) t (iN x))).toInt32 = (wD (wayS (τ 1) (tSp τ) (tHd τ) (τ 6) (τ 7) t (iN x))).toInt32 := by
  have hi := rel_in h hx
  have e := way_cg (mi := κ 4) (sp := κ 9) (hd := κ 10) (di := κ 2) (dr := κ 3) (mi' := τ 1) (sp' := tSp τ) (hd' := tHd τ) (di' := τ 6) (dr' := τ 7) (t := t) (n := n) (fun i hi => ⟨(rel_E h i hi).1, (rel_R h i hi).1, (rel_R h i hi).2.1⟩) (fun i hi => (hN_ok (rel_mi h i hi)).2) (fun j hj => ⟨(h.2.1 j hj).1, (h.2.1 j hj).2.1⟩) (iN x) hi
  have b := way_bd (mi := τ 1) (sp := tSp τ) (hd := tHd τ) (di := τ 6) (dr := τ 7) (t := t) (n := n) (fun i hi => (rel_O h i hi).1) (fun i hi => wSp_b (rel_tOk h i hi).1 (rel_tOk h i hi).2.2) (fun j hj => rng_int (by decide +kernel) (by decide +kernel) (h.2.1 j hj).2.2) h.1.1 (iN x) hi
  have hn := h.1.1
  rw [e, fd6_wD (by omega) (by omega)]
/-! the vane shown -/
theorem fd2_h2 {x : Int32} (h1 : -1000000 ≤ x.toInt) (h2 : x.toInt ≤ 1000000) : fd2 x = h2M x := by
  unfold fd2 h2M
  have c0 : (0 : Int32).toInt = 0 := by decide +kernel
  have c6 : (2 : Int32).toInt = 2 := by decide +kernel
  have c1 : (1 : Int32).toInt = 1 := by decide +kernel
  by_cases h : 0 ≤ x
  · rw [if_pos h, if_neg (by rw [i32_lt]; rw [i32_le] at h; omega)]
  · have hz : x.toInt < 0 := by
      rw [i32_le] at h
      omega
    have q1 : (x / 2).toInt = -((-x.toInt) / 2) := by
      rw [i32_div (by rw [c6]; omega), c6, tdiv_neg hz, Int.tdiv_eq_ediv_of_nonneg (by omega)]
    have q2 : ((1 - x) / 2).toInt = (1 - x.toInt) / 2 := by
      rw [i32_div (by rw [c6]; omega), c6, i32_sub (by omega) (by omega), c1, Int.tdiv_eq_ediv_of_nonneg (by omega)]
    have hx0 : x < 0 := by rw [i32_lt]; omega
    rw [if_neg h, if_pos hx0]
    have q3 : (x / 2 * 2).toInt = -((-x.toInt) / 2) * 2 := by rw [i32_mul (by rw [q1, c6]; omega) (by rw [q1, c6]; omega), q1, c6]
    apply i32_ext
    rw [i32_neg (by rw [q2]; omega), q2]
    by_cases e : x / 2 * 2 = x
    · rw [if_pos e, q1]
      have := congrArg Int32.toInt e
      rw [q3] at this
      omega
    · rw [if_neg e, i32_sub (by rw [q1, c1]; omega) (by rw [q1, c1]; omega), q1, c1]
      have : ¬ -((-x.toInt) / 2) * 2 = x.toInt := fun z => e (i32_ext (by rw [q3]; exact z))
      omega
theorem sm_bd {wa : Nat → Int32} (sd : Int32) {n : Nat} (hw : ∀ i, i < n → ∃ k, k < 360 ∧ wa i = nI k) (hn : n ≤ 60) : ∀ i : Nat, i ≤ n → 0 ≤ (smO wa sd i).toInt ∧ (smO wa sd i).toInt ≤ (i * 180 : Int) := by
  intro i
  induction i with
  | zero => intro _; exact ⟨(by decide +kernel : 0 ≤ (0 : Int32).toInt), (by decide +kernel : (0 : Int32).toInt ≤ ((0 : Nat) * 180 : Int))⟩
  | succ i ih =>
    intro hi
    have i1 := ih (by omega)
    obtain ⟨k, hk, ek⟩ := hw i (by omega)
    obtain ⟨j, hj, ej⟩ := opn_lt k hk
    rw [smO]
    split
    · have e : (opn (wa i)).toInt = (j : Int) := by rw [ek, ej, nI_toInt (by omega)]
      rw [i32_add (by omega) (by omega), e]
      omega
    · omega
theorem vn_vm {wa : Nat → Int32} {n : Nat} (hw : ∀ i, i < n → ∃ k, k < 360 ∧ wa i = nI k) (hn : n ≤ 60) : vnF wa n = vnM wa n := by
  have c1 : (-1 : Int32).toInt = -1 := by decide +kernel
  have key : ∀ sd, ctO wa sd n ≠ 0 → 0 ≤ (smO wa sd n / nI (ctO wa sd n)).toInt ∧ (smO wa sd n / nI (ctO wa sd n)).toInt ≤ 10800 := by
    intro sd hc
    have b := sm_bd sd hw hn n (Nat.le_refl _)
    have l := ct_le wa sd n
    have e : (nI (ctO wa sd n)).toInt = (ctO wa sd n : Int) := nI_toInt (by omega)
    rw [i32_div (by omega), e, Int.tdiv_eq_ediv_of_nonneg b.1]
    refine ⟨Int.ediv_nonneg b.1 (by omega), ?_⟩
    have := Int.ediv_le_self (ctO wa sd n : Int) b.1
    omega
  have mean : ∀ sd, meanF wa sd n = -1 ↔ nI (ctO wa sd n) = 0 := by
    intro sd
    have l := ct_le wa sd n
    rw [nI_z (by omega)]
    unfold meanF
    by_cases h : ctO wa sd n = 0
    · rw [if_pos h]
      exact ⟨fun _ => h, fun _ => rfl⟩
    · rw [if_neg h]
      refine ⟨fun q => ?_, fun q => absurd q h⟩
      have := (key sd h).1
      rw [q, c1] at this
      omega
  unfold vnF vnM
  by_cases h : nI (ctO wa 2 n) = 0 ∨ nI (ctO wa 1 n) = 0
  · rw [if_pos h, if_pos (h.imp (mean 2).mpr (mean 1).mpr)]
  · rw [if_neg h, if_neg (fun q => h (q.imp (mean 2).mp (mean 1).mp))]
    have h2 : ctO wa 2 n ≠ 0 := fun q => h (Or.inl (by rw [q]; rfl))
    have h1 : ctO wa 1 n ≠ 0 := fun q => h (Or.inr (by rw [q]; rfl))
    have k2 := key 2 h2
    have k1 := key 1 h1
    unfold meanF
    rw [if_neg h2, if_neg h1, fd2_h2 (by rw [i32_sub (by omega) (by omega)]; omega) (by rw [i32_sub (by omega) (by omega)]; omega)]
theorem a_vane {κ τ : sQ} {n : Nat} (h : sRel κ τ n) : vnF (κ 12) n = vnM (tWa τ) n := by
  rw [vn_cg (fun i hi => (rel_R h i hi).2.2.2)]
  exact vn_vm (fun i hi => ANG_lt _ _) h.1.1
end SAns
