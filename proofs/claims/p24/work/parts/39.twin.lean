/-! ===== two logs, one turned on ===== -/
section STwin
def sG (τ : sQ) (n : Nat) : Prop := (-20 ≤ (τ 0 2).toInt ∧ (τ 0 2).toInt ≤ 20) ∧ ∀ i, i + 1 < n → (τ 1 i).toInt < (τ 1 (i + 1)).toInt
def tw (mm : Nat) (τ σ : sQ) (n : Nat) : Prop := (τ 0 1 = σ 0 1 ∧ τ 0 2 = σ 0 2 ∧ τ 0 3 = σ 0 3) ∧ (∀ i, i < n → τ 1 i = σ 1 i ∧ τ 2 i = σ 2 i ∧ τ 4 i = σ 4 i ∧ τ 5 i = σ 5 i ∧ ∃ a, a < 360 ∧ τ 3 i = nI a ∧ σ 3 i = nI ((a + mm) % 360)) ∧ ∀ h, h < 24 → τ 7 h = σ 7 h ∧ (mm = 0 → τ 6 h = σ 6 h)
theorem tw_G {mm n : Nat} {τ σ : sQ} (h : tw mm τ σ n) (g : sG τ n) : sG σ n := by
  refine ⟨by rw [← h.1.2.1]; exact g.1, fun i hi => ?_⟩
  rw [← (h.2.1 i (by omega)).1, ← (h.2.1 (i + 1) hi).1]
  exact g.2 i hi
theorem tw_sp {mm n i : Nat} {τ σ : sQ} (h : tw mm τ σ n) (hi : i < n) : tSp τ i = tSp σ i ∧ tWs τ i = tWs σ i ∧ tWa τ i = tWa σ i := by
  obtain ⟨⟨f1, f2, f3⟩, hE, -⟩ := h
  obtain ⟨-, e2, e4, e5, -⟩ := hE i hi
  have a1 : tSp τ i = tSp σ i := by unfold tSp; rw [e2, f1]
  have a2 : tAh τ i = tAh σ i := by unfold tAh; rw [a1, e4, e5, f3]
  have a3 : tAc τ i = tAc σ i := by unfold tAc; rw [e4, e5, f3]
  exact ⟨a1, by unfold tWs; rw [a2, a3], by unfold tWa; rw [a2, a3]⟩
section Al
variable {κ μ τ σ : sQ} {n mm : Nat}
theorem al_E (h1 : sRel κ τ n) (h2 : sRel μ σ n) (h : tw mm τ σ n) : ∀ i, i < n → κ 9 i = μ 9 i ∧ κ 11 i = μ 11 i ∧ κ 12 i = μ 12 i ∧ κ 4 i = μ 4 i := fun i hi => by
  obtain ⟨a1, -, a3, a4⟩ := rel_R h1 i hi
  obtain ⟨b1, -, b3, b4⟩ := rel_R h2 i hi
  obtain ⟨c1, c2, c3⟩ := tw_sp h hi
  refine ⟨by rw [a1, b1, c1], by rw [a3, b3, c2], by rw [a4, b4, c3], ?_⟩
  rw [(rel_E h1 i hi).1, (rel_E h2 i hi).1, (h.2.1 i hi).1]
theorem al_vane (h1 : sRel κ τ n) (h2 : sRel μ σ n) (h : tw mm τ σ n) : vnF (κ 12) n = vnF (μ 12) n := vn_cg (fun i hi => (al_E h1 h2 h i hi).2.2.1)
theorem al_costs (h1 : sRel κ τ n) (h2 : sRel μ σ n) (h : tw mm τ σ n) (x : Int32) : costF (κ 12) (κ 4) (κ 9) n x n = costF (μ 12) (μ 4) (μ 9) n x n := cost_cg (fun i hi => ⟨(al_E h1 h2 h i hi).2.2.1, (al_E h1 h2 h i hi).2.2.2, (al_E h1 h2 h i hi).1⟩) n (Nat.le_refl _)
theorem al_loss (h1 : sRel κ τ n) (h2 : sRel μ σ n) (h : tw mm τ σ n) {i : Nat} (hi : i < n) : lossF (κ 12) (κ 4) (κ 9) n i = lossF (μ 12) (μ 4) (μ 9) n i := loss_cg (fun i hi => ⟨(al_E h1 h2 h i hi).2.2.1, (al_E h1 h2 h i hi).2.2.2, (al_E h1 h2 h i hi).1⟩) hi
theorem al_kind (h1 : sRel κ τ n) (h2 : sRel μ σ n) (h : tw mm τ σ n) {i : Nat} (hi : i < n) : kindF (κ 12) i = kindF (μ 12) i := kind_cg (fun i hi => (al_E h1 h2 h i hi).2.2.1) hi
theorem ang_k (h1 : sRel κ τ n) {i : Nat} (hi : i < n) : ∃ j, j < 360 ∧ κ 12 i = nI j := by
  rw [(rel_R h1 i hi).2.2.2]
  exact ANG_lt _ _
theorem ws_nn (h1 : sRel κ τ n) {i : Nat} (hi : i < n) : 0 ≤ (κ 11 i).toInt := by
  rw [(rel_R h1 i hi).2.2.1]
  exact wWs_nn (tAh_b (rel_tOk h1 i hi)) (tAc_b (rel_tOk h1 i hi))
theorem sp_b (h1 : sRel κ τ n) : ∀ i, i < n → 0 ≤ (κ 9 i).toInt ∧ (κ 9 i).toInt ≤ 450 := fun i hi => by
  rw [(rel_R h1 i hi).1]
  exact wSp_b (rel_tOk h1 i hi).1 (rel_tOk h1 i hi).2.2
theorem mi_lt (h1 : sRel κ τ n) (g : sG τ n) : ∀ i, i + 1 < n → (κ 4 i).toInt < (κ 4 (i + 1)).toInt := fun i hi => by
  rw [(rel_E h1 i (by omega)).1, (rel_E h1 (i + 1) hi).1]
  exact g.2 i hi
theorem loss_0l (h1 : sRel κ τ n) (g : sG τ n) {i : Nat} (hi : i < n) : 0 ≤ (lossF (κ 12) (κ 4) (κ 9) n i).toInt := loss_nn (sp_b h1) (rel_mi h1) (mi_lt h1 g) hi
theorem al_from (h1 : sRel κ τ n) (h2 : sRel μ σ n) (h : tw mm τ σ n) (g : sG τ n) (hm : mm < 360) {i : Nat} (hi : i < n) : (t360 (κ 10 i + κ 12 i) + nI mm) - (t360 (κ 10 i + κ 12 i) + nI mm) / 360 * 360 = t360 (μ 10 i + μ 12 i) := by
  obtain ⟨j, hj, ej⟩ := ang_k h1 hi
  obtain ⟨-, -, -, -, a, ha, e1, e2⟩ := h.2.1 i hi
  rw [← (al_E h1 h2 h i hi).2.2.1, (rel_R h1 i hi).2.1, (rel_R h2 i hi).2.1, ej]
  unfold tHd
  rw [e1, e2, ← h.1.2.1]
  exact from_tw ha hj hm g.1
theorem al_way (h1 : sRel κ τ n) (h2 : sRel μ σ n) (h : tw mm τ σ n) (hm : mm = 0) (t : Int32) {i : Nat} (hi : i < n) : (fd6 (wayS (κ 4) (κ 9) (κ 10) (κ 2) (κ 3) t i)).toInt32 = (fd6 (wayS (μ 4) (μ 9) (μ 10) (μ 2) (μ 3) t i)).toInt32 := by
  rw [way_cg (mi' := μ 4) (sp' := μ 9) (hd' := μ 10) (di' := μ 2) (dr' := μ 3) (n := n) (fun i hi => ⟨(al_E h1 h2 h i hi).2.2.2, (al_E h1 h2 h i hi).1, ?_⟩) (fun i hi => (hN_ok (rel_mi h1 i hi)).2) (fun j hj => ⟨?_, ?_⟩) i hi]
  · obtain ⟨-, -, -, -, a, ha, e1, e2⟩ := h.2.1 i hi
    rw [(rel_R h1 i hi).2.1, (rel_R h2 i hi).2.1]
    unfold tHd
    rw [e1, e2, ← h.1.2.1, hm, show (a + 0) % 360 = a by omega]
  · rw [(h1.2.1 j hj).1, (h2.2.1 j hj).1, (h.2.2 j hj).2 hm]
  · rw [(h1.2.1 j hj).2.1, (h2.2.1 j hj).2.1, (h.2.2 j hj).1]
theorem al_cell (h1 : sRel κ τ n) (h2 : sRel μ σ n) (h : tw mm τ σ n) {r c : Nat} (hr : r < 19) (hc : c < 10) : κ 1 (r * 10 + c) = μ 1 (r * 10 + c) := by
  rw [h1.2.2.2.2.2 r c hr hc, h2.2.2.2.2.2 r c hr hc]
  exact fmx_cg n (fun i hi => ⟨(al_E h1 h2 h i hi).1, (al_E h1 h2 h i hi).2.1, (al_E h1 h2 h i hi).2.2.1⟩)
theorem al_best (h1 : sRel κ τ n) (h2 : sRel μ σ n) (h : tw mm τ σ n) {x y : Int32} (hx : 0 ≤ x ∧ x ≤ 18) (hy : 0 ≤ y ∧ y ≤ 9) : κ 1 (iN x * 10 + iN y) = μ 1 (iN x * 10 + iN y) :=
  al_cell h1 h2 h (rng_ok 18 (by decide +kernel) (by omega) hx).2 (rng_ok 9 (by decide +kernel) (by omega) hy).2
theorem al_up (h1 : sRel κ τ n) (h2 : sRel μ σ n) (h : tw mm τ σ n) {y : Int32} (hy : 0 ≤ y ∧ y ≤ 9) (w : Int32) (lo j : Nat) (hl : lo + j ≤ 19) : (upB (fun r => w * κ 1 (r * 10 + iN y) * cs (midI (nI r))) lo j).1 = (upB (fun r => w * μ 1 (r * 10 + iN y) * cs (midI (nI r))) lo j).1 := by
  rw [upB_cg j (fun i hi => ?_)]
  show w * κ 1 ((lo + i) * 10 + iN y) * _ = w * μ 1 ((lo + i) * 10 + iN y) * _
  rw [al_cell h1 h2 h (show lo + i < 19 by omega) (rng_ok 9 (by decide +kernel) (by omega) hy).2]
end Al
end STwin
