/-! ===== what the law's methods answer ===== -/
section SMath3
/-! courses and rows -/
def gF (κ : sQ) (f b c h : Nat) : Int32 := κ 1 (rN (t360 (nI f + -nI h)) * 10 + iN (nI c)) * cs (nI h - nI b)
theorem course_f (κ : sQ) (f b c : Nat) : ((upB (gF κ f b c) 0 360).1 = -1 ∧ ∀ i, i < 360 → (gF κ f b c i).toInt ≤ 0) ∨ ∃ i, i < 360 ∧ (upB (gF κ f b c) 0 360).1 = nI i ∧ 0 < (gF κ f b c i).toInt ∧ ∀ i', i' < 360 → (gF κ f b c i').toInt < (gF κ f b c i).toInt ∨ ((gF κ f b c i').toInt = (gF κ f b c i).toInt ∧ i ≤ i') := by
  have h := upB_spec (gF κ f b c) 0 360
  simp only [Nat.zero_add] at h
  rcases h with ⟨a, -, h⟩ | ⟨i, hi, a, -, h0, h⟩
  · exact Or.inl ⟨a, h⟩
  · exact Or.inr ⟨i, hi, a, h0, h⟩
def bF (κ : sQ) (c r : Nat) : Int32 := κ 1 (r * 10 + c) * cs (midI (nI r))
theorem bF_b {κ τ : sQ} {n r c : Nat} (h : sRel κ τ n) (hr : r < 19) (hc : c < 10) : -1000000 ≤ (bF κ c r).toInt ∧ (bF κ c r).toInt ≤ 1000000 := by
  unfold bF
  rw [a_cell h hr hc]
  exact down_bd h (nI c) r
theorem up_f (κ : sQ) {c : Nat} (hc : c < 10) : ((upB (fun r => 1 * κ 1 (r * 10 + iN (nI c)) * cs (midI (nI r))) 0 9).1 = -1 ∧ ∀ r, r < 9 → (bF κ c r).toInt ≤ 0) ∨ ∃ v, v < 9 ∧ (upB (fun r => 1 * κ 1 (r * 10 + iN (nI c)) * cs (midI (nI r))) 0 9).1 = nI v ∧ ∀ r, r < 9 → (bF κ c r).toInt ≤ (bF κ c v).toInt := by
  have e : (fun r => 1 * κ 1 (r * 10 + iN (nI c)) * cs (midI (nI r))) = bF κ c := by
    funext r
    rw [Int32.one_mul, iN_k (by omega)]
    rfl
  rw [e]
  have h := upB_spec (bF κ c) 0 9
  simp only [Nat.zero_add] at h
  rcases h with ⟨a, -, h⟩ | ⟨i, hi, a, -, h0, h⟩
  · exact Or.inl ⟨a, h⟩
  · exact Or.inr ⟨i, hi, a, fun r hr => by have := h r hr; omega⟩
theorem down_f {κ τ : sQ} {n c : Nat} (hR : sRel κ τ n) (hc : c < 10) : ((upB (fun r => (-1) * κ 1 (r * 10 + iN (nI c)) * cs (midI (nI r))) 9 10).1 = -1 ∧ ∀ r, 9 ≤ r → r < 19 → 0 ≤ (bF κ c r).toInt) ∨ ∃ v, 9 ≤ v ∧ v < 19 ∧ (upB (fun r => (-1) * κ 1 (r * 10 + iN (nI c)) * cs (midI (nI r))) 9 10).1 = nI v ∧ ∀ r, 9 ≤ r → r < 19 → (bF κ c v).toInt ≤ (bF κ c r).toInt := by
  have e : (fun r => (-1) * κ 1 (r * 10 + iN (nI c)) * cs (midI (nI r))) = fun r => -(bF κ c r) := by
    funext r
    rw [Int32.neg_mul, Int32.one_mul, Int32.neg_mul, iN_k (by omega)]
    rfl
  rw [e]
  have hn : ∀ r, r < 19 → (-(bF κ c r)).toInt = -(bF κ c r).toInt := fun r hr => by
    have := bF_b hR hr hc
    exact i32_neg (by omega)
  have h := upB_spec (fun r => -(bF κ c r)) 9 10
  rcases h with ⟨a, -, h⟩ | ⟨i, hi, a, -, h0, h⟩
  · refine Or.inl ⟨a, fun r h9 hr => ?_⟩
    have := h (r - 9) (by omega)
    rw [show 9 + (r - 9) = r by omega, hn r hr] at this
    omega
  · refine Or.inr ⟨9 + i, by omega, by omega, a, fun r h9 hr => ?_⟩
    have := h (r - 9) (by omega)
    rw [show 9 + (r - 9) = r by omega, hn r hr, hn (9 + i) (by omega)] at this
    omega
/-! one act -/
def acX2 (k : Nat) : Int32 := nI (if k / 8 % 2 = 0 then k / 8 / 7 % 100 else k / 8 / 7 % 301)
def acX4 (k : Nat) : Int32 := nI (if k / 8 % 3 = 0 then k / 8 / 13 % 601 else k / 8 / 13 % 200)
def acV (κ : sQ) (n : Nat) (z : Int32) (k mm : Nat) : Int32 :=
  if k % 8 = 0 then κ 0 1 else if k % 8 < 3 then κ 3 (k / 8 % 24) else
    oL ((0 ≤ z + nI (k / 8 % 60) ∧ z + nI (k / 8 % 60) ≤ 1439) ∧ (0 ≤ acX2 k ∧ acX2 k ≤ 300) ∧ (0 ≤ nI ((k / 8 / 11 + mm) % 360) ∧ nI ((k / 8 / 11 + mm) % 360) ≤ 359) ∧ (0 ≤ acX4 k ∧ acX4 k ≤ 600) ∧ (0 ≤ nI (k / 8 / 17 % 360) ∧ nI (k / 8 / 17 % 360) ≤ 359)) (n < 60 ∧ (n = 0 ∨ κ 4 (n - 1) < z + nI (k / 8 % 60))) (nI n) (-2000000002) (-2000000003)
def acK (κ : sQ) (n : Nat) (z : Int32) (k mm : Nat) : sQ :=
  if k % 8 = 0 then kAll (kF κ (nI (500 + k / 8 % 1001)) (nI (k / 8 / 7 % 41) - 20) (nI (k / 8 / 287 % 41) - 20)) n else if k % 8 < 3 then kset (kset κ 2 (k / 8 % 24) (nI ((k / 8 / 24 + mm) % 360))) 3 (k / 8 % 24) (nI (k / 8 / 8640 % 101)) else
    if ((0 ≤ z + nI (k / 8 % 60) ∧ z + nI (k / 8 % 60) ≤ 1439) ∧ (0 ≤ acX2 k ∧ acX2 k ≤ 300) ∧ (0 ≤ nI ((k / 8 / 11 + mm) % 360) ∧ nI ((k / 8 / 11 + mm) % 360) ≤ 359) ∧ (0 ≤ acX4 k ∧ acX4 k ≤ 600) ∧ (0 ≤ nI (k / 8 / 17 % 360) ∧ nI (k / 8 / 17 % 360) ≤ 359)) ∧ (n < 60 ∧ (n = 0 ∨ κ 4 (n - 1) < z + nI (k / 8 % 60))) then kLog κ n (z + nI (k / 8 % 60)) (acX2 k) (nI ((k / 8 / 11 + mm) % 360)) (acX4 k) (nI (k / 8 / 17 % 360)) else κ
section Ac
variable {κ μ τ σ : sQ} {n k mm : Nat} {z : Int32}
theorem acV_f (h : k % 8 = 0) : acV κ n z k mm = κ 0 1 := by rw [acV, if_pos h]
theorem acV_t (h : 0 < k % 8) (h3 : k % 8 < 3) : acV κ n z k mm = κ 3 (k / 8 % 24) := by rw [acV, if_neg (by omega), if_pos h3]
theorem acK_f (h : k % 8 = 0) : acK κ n z k mm = kAll (kF κ (nI (500 + k / 8 % 1001)) (nI (k / 8 / 7 % 41) - 20) (nI (k / 8 / 287 % 41) - 20)) n := by rw [acK, if_pos h]
theorem acK_t (h : 0 < k % 8) (h3 : k % 8 < 3) : acK κ n z k mm = kset (kset κ 2 (k / 8 % 24) (nI ((k / 8 / 24 + mm) % 360))) 3 (k / 8 % 24) (nI (k / 8 / 8640 % 101)) := by rw [acK, if_neg (by omega), if_pos h3]
theorem acV_l {x2 x4 : Int32} (h : 3 ≤ k % 8) (h2 : x2 = acX2 k) (h4 : x4 = acX4 k) : oL ((0 ≤ z + nI (k / 8 % 60) ∧ z + nI (k / 8 % 60) ≤ 1439) ∧ (0 ≤ x2 ∧ x2 ≤ 300) ∧ (0 ≤ nI ((k / 8 / 11 + mm) % 360) ∧ nI ((k / 8 / 11 + mm) % 360) ≤ 359) ∧ (0 ≤ x4 ∧ x4 ≤ 600) ∧ (0 ≤ nI (k / 8 / 17 % 360) ∧ nI (k / 8 / 17 % 360) ≤ 359)) (n < 60 ∧ (n = 0 ∨ κ 4 (n - 1) < z + nI (k / 8 % 60))) (nI n) (-2000000002) (-2000000003) = acV κ n z k mm := by
  subst h2 h4
  rw [acV, if_neg (by omega), if_neg (by omega)]
theorem acK_l {x2 x4 : Int32} (h : 3 ≤ k % 8) (h2 : x2 = acX2 k) (h4 : x4 = acX4 k) : (if ((0 ≤ z + nI (k / 8 % 60) ∧ z + nI (k / 8 % 60) ≤ 1439) ∧ (0 ≤ x2 ∧ x2 ≤ 300) ∧ (0 ≤ nI ((k / 8 / 11 + mm) % 360) ∧ nI ((k / 8 / 11 + mm) % 360) ≤ 359) ∧ (0 ≤ x4 ∧ x4 ≤ 600) ∧ (0 ≤ nI (k / 8 / 17 % 360) ∧ nI (k / 8 / 17 % 360) ≤ 359)) ∧ (n < 60 ∧ (n = 0 ∨ κ 4 (n - 1) < z + nI (k / 8 % 60))) then kLog κ n (z + nI (k / 8 % 60)) x2 (nI ((k / 8 / 11 + mm) % 360)) x4 (nI (k / 8 / 17 % 360)) else κ) = acK κ n z k mm := by
  subst h2 h4
  symm
  rw [acK, if_neg (by omega), if_neg (by omega)]
theorem acX2_in (k : Nat) : 0 ≤ acX2 k ∧ acX2 k ≤ 300 := by
  unfold acX2
  split
  · exact in_k (m := 300) (by decide +kernel) (by omega) (by omega)
  · exact in_k (m := 300) (by decide +kernel) (by omega) (by omega)
theorem acX4_in (k : Nat) : 0 ≤ acX4 k ∧ acX4 k ≤ 600 := by
  unfold acX4
  split
  · exact in_k (m := 600) (by decide +kernel) (by omega) (by omega)
  · exact in_k (m := 600) (by decide +kernel) (by omega) (by omega)
theorem ac_in (a k mm : Nat) : 0 ≤ nI ((k + mm) % 360) ∧ nI ((k + mm) % 360) ≤ 359 := in_k (m := 359) (by decide +kernel) (by omega) (by omega)
theorem ac_in5 (k : Nat) : 0 ≤ nI (k % 360) ∧ nI (k % 360) ≤ 359 := in_k (m := 359) (by decide +kernel) (by omega) (by omega)
theorem oL_cg {a b a' b' : Prop} [Decidable a] [Decidable b] [Decidable a'] [Decidable b'] {v e1 e2 : Int32} (h : a ↔ a') (h2 : b ↔ b') : oL a b v e1 e2 = oL a' b' v e1 e2 := by
  unfold oL
  by_cases q : a
  · by_cases r : b
    · rw [if_pos q, if_pos (h.mp q), if_pos r, if_pos (h2.mp r)]
    · rw [if_pos q, if_pos (h.mp q), if_neg r, if_neg (fun z => r (h2.mpr z))]
  · rw [if_neg q, if_neg (fun z => q (h.mpr z))]
theorem ac_lt (h1 : sRel κ τ n) (h2 : sRel μ σ n) (h : tw mm τ σ n) {x : Int32} : (n < 60 ∧ (n = 0 ∨ κ 4 (n - 1) < x)) ↔ (n < 60 ∧ (n = 0 ∨ μ 4 (n - 1) < x)) := by
  by_cases hn : n = 0
  · exact ⟨fun q => ⟨q.1, Or.inl hn⟩, fun q => ⟨q.1, Or.inl hn⟩⟩
  · rw [(al_E h1 h2 h (n - 1) (by omega)).2.2.2]
theorem act_V (h1 : sRel κ τ n) (h2 : sRel μ σ n) (h : tw mm τ σ n) : acV μ n z k mm = acV κ n z k 0 := by
  by_cases h8 : k % 8 = 0
  · rw [acV_f h8, acV_f h8, h1.1.2.2.2.1, h2.1.2.2.2.1, h.1.1]
  · by_cases h3 : k % 8 < 3
    · rw [acV_t (by omega) h3, acV_t (by omega) h3, (h1.2.1 _ (by omega)).2.1, (h2.2.1 _ (by omega)).2.1, (h.2.2 _ (by omega)).1]
    · rw [acV, acV, if_neg h8, if_neg h8, if_neg h3, if_neg h3]
      refine oL_cg ⟨fun q => ⟨q.1, q.2.1, ac_in 0 _ _, q.2.2.2⟩, fun q => ⟨q.1, q.2.1, ac_in 0 _ _, q.2.2.2⟩⟩ (ac_lt h1 h2 h).symm
theorem tF_v (τ : sQ) (f c v : Int32) : tF τ f c v 0 1 = f ∧ tF τ f c v 0 2 = c ∧ tF τ f c v 0 3 = v := ⟨by simp [tF, kset], by simp [tF, kset], by simp [tF, kset]⟩
theorem tF_n (τ : sQ) (f c v : Int32) {a : Nat} (x : Nat) (h : a ≠ 0) : tF τ f c v a x = τ a x := by
  unfold tF
  rw [kset_ne _ _ (by omega), kset_ne _ _ (by omega), kset_ne _ _ (by omega)]
theorem act_rel (h1 : sRel κ τ n) (h2 : sRel μ σ n) (h : tw mm τ σ n) (g : sG τ n) (hm : mm < 360) : ∃ (n' : Nat) (τ' σ' : sQ), sRel (acK κ n z k 0) τ' n' ∧ sRel (acK μ n z k mm) σ' n' ∧ tw mm τ' σ' n' ∧ sG τ' n' := by
  by_cases h8 : k % 8 = 0
  · rw [acK_f h8, acK_f h8]
    have hf : 500 ≤ nI (500 + k / 8 % 1001) ∧ nI (500 + k / 8 % 1001) ≤ 1500 := in_l (l := 500) (m := 1500) (by decide +kernel) (by decide +kernel) (by omega) (by omega) (by omega)
    have hc := in_m (a := k / 8 / 7 % 41) (by omega)
    refine ⟨n, _, _, sRel_faults h1 hf, sRel_faults h2 hf, ?_, ?_⟩
    · obtain ⟨-, hE, hT⟩ := h
      obtain ⟨a1, a2, a3⟩ := tF_v τ (nI (500 + k / 8 % 1001)) (nI (k / 8 / 7 % 41) - 20) (nI (k / 8 / 287 % 41) - 20)
      obtain ⟨b1, b2, b3⟩ := tF_v σ (nI (500 + k / 8 % 1001)) (nI (k / 8 / 7 % 41) - 20) (nI (k / 8 / 287 % 41) - 20)
      refine ⟨⟨by rw [a1, b1], by rw [a2, b2], by rw [a3, b3]⟩, fun i hi => ?_, fun q hq => ?_⟩
      · simp only [tF_n _ _ _ _ _ (show 1 ≠ 0 by omega), tF_n _ _ _ _ _ (show 2 ≠ 0 by omega), tF_n _ _ _ _ _ (show 3 ≠ 0 by omega), tF_n _ _ _ _ _ (show 4 ≠ 0 by omega), tF_n _ _ _ _ _ (show 5 ≠ 0 by omega)]
        exact hE i hi
      · simp only [tF_n _ _ _ _ _ (show 6 ≠ 0 by omega), tF_n _ _ _ _ _ (show 7 ≠ 0 by omega)]
        exact hT q hq
    · refine ⟨?_, fun i hi => ?_⟩
      · rw [(tF_v τ _ _ _).2.1]
        exact rng_int (by decide +kernel) (by decide +kernel) hc
      · rw [tF_n _ _ _ _ _ (by omega), tF_n _ _ _ _ _ (by omega)]
        exact g.2 i hi
  · by_cases h3 : k % 8 < 3
    · rw [acK_t (by omega) h3, acK_t (by omega) h3]
      have hr : 0 ≤ nI (k / 8 / 8640 % 101) ∧ nI (k / 8 / 8640 % 101) ≤ 100 := in_k (m := 100) (by decide +kernel) (by omega) (by omega)
      refine ⟨n, _, _, sRel_tide h1 hr, sRel_tide h2 hr, ?_, ?_⟩
      · obtain ⟨h0, hE, hT⟩ := h
        have kn : ∀ (ρ : sQ) (x : Nat) (d r : Int32) (a y : Nat), a ≠ 6 → a ≠ 7 → kset (kset ρ 6 x d) 7 x r a y = ρ a y := fun ρ x d r a y h1 h2 => by rw [kset_ne _ _ (by omega), kset_ne _ _ (by omega)]
        refine ⟨?_, fun i hi => ?_, fun q hq => ?_⟩
        · simp only [kn _ _ _ _ 0 _ (by omega) (by omega)]
          exact h0
        · simp only [kn _ _ _ _ 1 _ (by omega) (by omega), kn _ _ _ _ 2 _ (by omega) (by omega), kn _ _ _ _ 3 _ (by omega) (by omega), kn _ _ _ _ 4 _ (by omega) (by omega), kn _ _ _ _ 5 _ (by omega) (by omega)]
          exact hE i hi
        · by_cases e : q = k / 8 % 24
          · subst e
            have a7 : ∀ (ρ : sQ) (x : Nat) (d r : Int32), kset (kset ρ 6 x d) 7 x r 7 x = r := fun ρ x d r => kset_self _ _ _ _
            have a6 : ∀ (ρ : sQ) (x : Nat) (d r : Int32), kset (kset ρ 6 x d) 7 x r 6 x = d := fun ρ x d r => by rw [kset_ne _ _ (by omega), kset_self]
            exact ⟨by rw [a7, a7], fun e => by rw [a6, a6, e]⟩
          · rw [kset_ne _ _ (by omega), kset_ne _ _ (by omega), kset_ne _ _ (by omega), kset_ne _ _ (by omega), kset_ne _ _ (by omega), kset_ne _ _ (by omega), kset_ne _ _ (by omega), kset_ne _ _ (by omega)]
            exact hT q hq
      · refine ⟨?_, fun i hi => ?_⟩
        · rw [kset_ne _ _ (by omega), kset_ne _ _ (by omega)]
          exact g.1
        · rw [kset_ne _ _ (by omega), kset_ne _ _ (by omega), kset_ne _ _ (by omega), kset_ne _ _ (by omega)]
          exact g.2 i hi
    · have hk : ∀ (ρ : sQ) (m9 : Nat), acK ρ n z k m9 = if (0 ≤ z + nI (k / 8 % 60) ∧ z + nI (k / 8 % 60) ≤ 1439) ∧ (n < 60 ∧ (n = 0 ∨ ρ 4 (n - 1) < z + nI (k / 8 % 60))) then kLog ρ n (z + nI (k / 8 % 60)) (acX2 k) (nI ((k / 8 / 11 + m9) % 360)) (acX4 k) (nI (k / 8 / 17 % 360)) else ρ := fun ρ m9 => by
        rw [acK, if_neg h8, if_neg h3]
        by_cases q : (0 ≤ z + nI (k / 8 % 60) ∧ z + nI (k / 8 % 60) ≤ 1439) ∧ (n < 60 ∧ (n = 0 ∨ ρ 4 (n - 1) < z + nI (k / 8 % 60)))
        · rw [if_pos q, if_pos ⟨⟨q.1, acX2_in k, ac_in 0 _ _, acX4_in k, ac_in5 _⟩, q.2⟩]
        · rw [if_neg q, if_neg (fun w => q ⟨w.1.1, w.2⟩)]
      rw [hk, hk]
      by_cases q : (0 ≤ z + nI (k / 8 % 60) ∧ z + nI (k / 8 % 60) ≤ 1439) ∧ (n < 60 ∧ (n = 0 ∨ κ 4 (n - 1) < z + nI (k / 8 % 60)))
      · rw [if_pos q, if_pos ⟨q.1, (ac_lt h1 h2 h).mp q.2⟩]
        have hlt : ∀ i, i + 1 = n → (τ 1 i).toInt < (z + nI (k / 8 % 60)).toInt := fun i hi => by
          rcases q.2.2 with q9 | q9
          · omega
          · rw [(rel_E h1 (n - 1) (by omega)).1, i32_lt, show n - 1 = i by omega] at q9
            exact q9
        refine ⟨n + 1, _, _, sRel_log h1 q.2.1 q.1 (acX2_in k) (acX4_in k), sRel_log h2 q.2.1 q.1 (acX2_in k) (acX4_in k), ?_, ?_⟩
        · obtain ⟨h0, hE, hT⟩ := h
          refine ⟨?_, fun i hi => ?_, fun q hq => ?_⟩
          · rw [tLog_z _ _ _ _ _ _ _ (by omega), tLog_z _ _ _ _ _ _ _ (by omega), tLog_z _ _ _ _ _ _ _ (by omega), tLog_z _ _ _ _ _ _ _ (by omega), tLog_z _ _ _ _ _ _ _ (by omega), tLog_z _ _ _ _ _ _ _ (by omega)]
            exact h0
          · by_cases e : i = n
            · subst e
              obtain ⟨-, t1, t2, t3, t4, t5⟩ := tLog_v τ i (z + nI (k / 8 % 60)) (acX2 k) (nI ((k / 8 / 11 + 0) % 360)) (acX4 k) (nI (k / 8 / 17 % 360))
              obtain ⟨-, s1, s2, s3, s4, s5⟩ := tLog_v σ i (z + nI (k / 8 % 60)) (acX2 k) (nI ((k / 8 / 11 + mm) % 360)) (acX4 k) (nI (k / 8 / 17 % 360))
              rw [t1, t2, t3, t4, t5, s1, s2, s3, s4, s5]
              exact ⟨rfl, rfl, rfl, rfl, (k / 8 / 11 + 0) % 360, by omega, rfl, by rw [show ((k / 8 / 11 + 0) % 360 + mm) % 360 = (k / 8 / 11 + mm) % 360 by omega]⟩
            · rw [tLog_ne _ _ _ _ _ _ (by omega) e, tLog_ne _ _ _ _ _ _ (by omega) e, tLog_ne _ _ _ _ _ _ (by omega) e, tLog_ne _ _ _ _ _ _ (by omega) e, tLog_ne _ _ _ _ _ _ (by omega) e, tLog_ne _ _ _ _ _ _ (by omega) e, tLog_ne _ _ _ _ _ _ (by omega) e, tLog_ne _ _ _ _ _ _ (by omega) e, tLog_ne _ _ _ _ _ _ (by omega) e, tLog_ne _ _ _ _ _ _ (by omega) e]
              exact hE i (by omega)
          · rw [tLog_hi _ _ _ _ _ _ _ _ (by omega), tLog_hi _ _ _ _ _ _ _ _ (by omega), tLog_hi _ _ _ _ _ _ _ _ (by omega), tLog_hi _ _ _ _ _ _ _ _ (by omega)]
            exact hT q hq
        · refine ⟨?_, fun i hi => ?_⟩
          · rw [tLog_z _ _ _ _ _ _ _ (by omega)]
            exact g.1
          · rw [tLog_ne _ _ _ _ _ _ (a := 1) (y := i) (by omega) (by omega)]
            by_cases e : i + 1 = n
            · rw [e, (tLog_v τ n _ _ _ _ _).2.1]
              exact hlt i e
            · rw [tLog_ne _ _ _ _ _ _ (by omega) e]
              exact g.2 i (by omega)
      · rw [if_neg q, if_neg (fun w => q ⟨w.1, (ac_lt h1 h2 h).mpr w.2⟩)]
        exact ⟨n, τ, σ, h1, h2, h, g⟩
end Ac
/-! faults taken back -/
def bkA (κ : sQ) (n : Nat) : sQ := kAll (kF κ 1000 0 0) n
def bkB (κ : sQ) (n : Nat) (f : Int32) : sQ := kAll (kF κ f 20 (-20)) n
section Bk
variable {κ τ : sQ} {n : Nat} {f : Int32}
theorem tF_tF (τ : sQ) (f c v f' c' v' : Int32) : tF (tF τ f c v) f' c' v' = tF τ f' c' v' := by
  funext a x
  unfold tF kset
  by_cases ha : a = 0
  · by_cases h1 : x = 1
    · simp [ha, h1]
    · by_cases h2 : x = 2
      · simp [ha, h2]
      · by_cases h3 : x = 3
        · simp [ha, h3]
        · simp [h1, h2, h3]
  · simp [ha]
theorem bk_A (h : sRel κ τ n) : sRel (bkA κ n) (tF τ 1000 0 0) n := sRel_faults h (by decide +kernel)
theorem bk_B (h : sRel κ τ n) (hf : 500 ≤ f ∧ f ≤ 1500) : sRel (bkB κ n f) (tF τ f 20 (-20)) n := sRel_faults h hf
theorem bk_C (h : sRel κ τ n) (hf : 500 ≤ f ∧ f ≤ 1500) : sRel (bkA (bkB (bkA κ n) n f) n) (tF τ 1000 0 0) n := by
  have h3 := bk_A (bk_B (bk_A h) hf)
  rw [tF_tF, tF_tF] at h3
  exact h3
theorem bk_G (g : sG τ n) : sG (tF τ 1000 0 0) n := by
  refine ⟨?_, fun i hi => ?_⟩
  · rw [(tF_v τ _ _ _).2.1]
    decide +kernel
  · rw [tF_n _ _ _ _ _ (by omega), tF_n _ _ _ _ _ (by omega)]
    exact g.2 i hi
theorem bkA_1 (h : sRel κ τ n) : bkA κ n 0 1 = 1000 := ((bk_A h).1.2.2.2.1).trans (tF_v τ _ _ _).1
theorem bkB_1 (h : sRel κ τ n) (hf : 500 ≤ f ∧ f ≤ 1500) : bkB κ n f 0 1 = f := ((bk_B h hf).1.2.2.2.1).trans (tF_v τ _ _ _).1
theorem bk_sp (h : sRel κ τ n) (hf : 500 ≤ f ∧ f ≤ 1500) {i : Nat} (hi : i < n) : bkB (bkA κ n) n f 9 i = bkA κ n 9 i * f / 1000 := by
  rw [(rel_R (bk_B (bk_A h) hf) i hi).1, (rel_R (bk_A h) i hi).1]
  unfold tSp
  rw [tF_tF, (tF_v τ _ _ _).1, (tF_v τ _ _ _).1, tF_n _ _ _ _ _ (by omega), tF_n _ _ _ _ _ (by omega)]
  have o := rng_int (n := 0) (m := 300) (by decide +kernel) (by decide +kernel) (rel_O h i hi).2.1
  have e : wSp (τ 2 i) 1000 = τ 2 i := by
    have c1 : (1000 : Int32).toInt = 1000 := by decide +kernel
    unfold wSp
    apply i32_ext
    have m1 : (τ 2 i * 1000).toInt = (τ 2 i).toInt * 1000 := by rw [i32_mul (by rw [c1]; omega) (by rw [c1]; omega), c1]
    rw [div_int (by rw [m1]; omega) (by rw [c1]; omega), m1, c1]
    omega
  rw [e]
  rfl
theorem bk_same (h : sRel κ τ n) (hf : 500 ≤ f ∧ f ≤ 1500) {i : Nat} (hi : i < n) : bkA (bkB (bkA κ n) n f) n 9 i = bkA κ n 9 i ∧ bkA (bkB (bkA κ n) n f) n 12 i = bkA κ n 12 i := by
  have a := rel_R (bk_A h) i hi
  have b := rel_R (bk_C h hf) i hi
  exact ⟨b.1.trans a.1.symm, b.2.2.2.trans a.2.2.2.symm⟩
theorem bk_way (h : sRel κ τ n) (hf : 500 ≤ f ∧ f ≤ 1500) {x : Int32} (hx : 0 ≤ x ∧ x ≤ nI n - 1) (t : Int32) : (fd6 (wayS (bkA (bkB (bkA κ n) n f) n 4) (bkA (bkB (bkA κ n) n f) n 9) (bkA (bkB (bkA κ n) n f) n 10) (bkA (bkB (bkA κ n) n f) n 2) (bkA (bkB (bkA κ n) n f) n 3) t (iN x))).toInt32 = (fd6 (wayS (bkA κ n 4) (bkA κ n 9) (bkA κ n 10) (bkA κ n 2) (bkA κ n 3) t (iN x))).toInt32 := by
  have a := bk_A h
  have b := bk_C h hf
  rw [a_way t a (by rw [a.1.2.1]; exact hx), a_way t b (by rw [b.1.2.1]; exact hx)]
end Bk
end SMath3
