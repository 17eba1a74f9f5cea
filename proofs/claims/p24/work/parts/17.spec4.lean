/-! ===== the class's search in the vector's own quarter comes to the same angle ===== -/
section SSpec4
theorem cI_b {k : Nat} (h : k < 360) : -1000 ≤ cI k ∧ cI k ≤ 1000 := (tab_bd k h).1
theorem sI_b {k : Nat} (h : k < 360) : -1000 ≤ sI k ∧ sI k ≤ 1000 := (tab_bd k h).2
theorem mul_bd {X c M : Int} (hX : -M ≤ X ∧ X ≤ M) (hc : -1000 ≤ c ∧ c ≤ 1000) (hM : 0 ≤ M) : -(M * 1000) ≤ X * c ∧ X * c ≤ M * 1000 := by
  have h1 : X.natAbs ≤ M.natAbs := by omega
  have h2 : c.natAbs ≤ 1000 := by omega
  have h3 : (X * c).natAbs ≤ M.natAbs * 1000 := by rw [Int.natAbs_mul]; exact Nat.mul_le_mul h1 h2
  omega
theorem rch_int {x y : Int64} (hx : -2147483648 ≤ x.toInt ∧ x.toInt ≤ 2147483648) (hy : -2147483648 ≤ y.toInt ∧ y.toInt ≤ 2147483648) {k : Nat} (hk : k < 360) : (rch x y k).toInt = rI x.toInt y.toInt k := by
  have hc := cI_b hk
  have hs := sI_b hk
  have m1 := mul_bd hx hc (by omega)
  have m2 := mul_bd hy hs (by omega)
  unfold cI at m1
  unfold sI at m2
  have e1 : (x * (cs (nI k)).toInt64).toInt = x.toInt * (cs (nI k)).toInt := by rw [i64_mul (by rw [i64_w]; omega) (by rw [i64_w]; omega), i64_w]
  have e2 : (y * (sn (nI k)).toInt64).toInt = y.toInt * (sn (nI k)).toInt := by rw [i64_mul (by rw [i64_w]; omega) (by rw [i64_w]; omega), i64_w]
  unfold rch rI cI sI
  rw [i64_add (by rw [e1, e2]; omega) (by rw [e1, e2]; omega), e1, e2]
/-- what the class's loop has found after j steps through the quarter q -/
def AB (X Y : Int) (q j f : Nat) (far : Int) : Prop := (j = 0 ∧ f = 0 ∧ far = -1) ∨ (0 < j ∧ f < 360 ∧ (∃ s, s < j ∧ f = (90 * q + s) % 360) ∧ far = rI X Y f ∧ ∀ s, s < j → rI X Y ((90 * q + s) % 360) < far ∨ rI X Y ((90 * q + s) % 360) = far ∧ f ≤ (90 * q + s) % 360)
theorem qN_lt (X Y : Int) : qN X Y < 4 := by unfold qN; split <;> split <;> omega
theorem first_nn (X Y : Int) : 0 ≤ rI X Y ((90 * qN X Y + 0) % 360) := by
  unfold qN
  by_cases hY : Y < 0
  · by_cases hX : 0 ≤ X
    · rw [if_pos hY, if_pos hX]
      show 0 ≤ rI X Y 270
      unfold rI
      rw [ax_3.1, ax_3.2.1]
      omega
    · rw [if_pos hY, if_neg hX]
      show 0 ≤ rI X Y 180
      unfold rI
      rw [ax_2.1, ax_2.2.1]
      omega
  · by_cases hX : X < 0
    · rw [if_neg hY, if_pos hX]
      show 0 ≤ rI X Y 90
      unfold rI
      rw [ax_1.1, ax_1.2.1]
      omega
    · rw [if_neg hY, if_neg hX]
      show 0 ≤ rI X Y 0
      unfold rI
      rw [ax_0.1, ax_0.2.1]
      omega
theorem AB_0 (X Y : Int) (q : Nat) : AB X Y q 0 0 (-1) := Or.inl ⟨rfl, rfl, rfl⟩
/-- the next angle is taken -/
theorem AB_take {X Y : Int} {q j f : Nat} {far r : Int} (h : AB X Y q j f far) (hr : r = rI X Y ((90 * q + j) % 360)) (ht : far < r ∨ r = far ∧ (90 * q + j) % 360 < f) : AB X Y q (j + 1) ((90 * q + j) % 360) r := by
  refine Or.inr ⟨by omega, by omega, ⟨j, by omega, rfl⟩, hr, fun s hs => ?_⟩
  by_cases e : s = j
  · subst e
    exact Or.inr ⟨hr.symm, Nat.le_refl _⟩
  · rcases h with ⟨h0, -⟩ | ⟨-, -, -, -, h5⟩
    · omega
    · have := h5 s (by omega)
      omega
/-- .. or left -/
theorem AB_leave {X Y : Int} {j f : Nat} {far r : Int} (h : AB X Y (qN X Y) j f far) (hr : r = rI X Y ((90 * qN X Y + j) % 360)) (ht : ¬ far < r) (ht2 : r = far → f ≤ (90 * qN X Y + j) % 360) : AB X Y (qN X Y) (j + 1) f far := by
  rcases h with ⟨rfl, rfl, rfl⟩ | ⟨h1, h2, ⟨s9, h3, h3'⟩, h4, h5⟩
  · have := first_nn X Y
    omega
  · refine Or.inr ⟨by omega, h2, ⟨s9, by omega, h3'⟩, h4, fun s hs => ?_⟩
    by_cases e : s = j
    · subst e
      rw [← hr]
      by_cases e2 : r = far
      · exact Or.inr ⟨e2, ht2 e2⟩
      · exact Or.inl (by omega)
    · exact h5 s (by omega)
theorem AB_lt {X Y : Int} {q j f : Nat} {far : Int} (h : AB X Y q j f far) : f < 360 := by
  rcases h with ⟨-, rfl, -⟩ | ⟨-, h2, -⟩
  · omega
  · exact h2
theorem AB_end {x y : Int64} {f : Nat} {far : Int} (hx : -2147483648 ≤ x.toInt ∧ x.toInt ≤ 2147483648) (hy : -2147483648 ≤ y.toInt ∧ y.toInt ≤ 2147483648) (h : AB x.toInt y.toInt (qN x.toInt y.toInt) 91 f far) : nI f = ANG x y := by
  rcases h with ⟨h0, -⟩ | ⟨-, h2, -, h4, h5⟩
  · omega
  have hm := mB_le x y 359
  unfold ANG
  congr 1
  -- what mB finds is best of all; f is best of its quarter
  have b1 := mB_best x y 359 f (by omega)
  rw [rch_int hx hy h2, rch_int hx hy (by omega)] at b1
  obtain ⟨b, hb, hq, hd⟩ := dom x.toInt y.toInt (mB x y 359) (by omega)
  obtain ⟨s, hs, hs2⟩ := inQ_s _ (qN_lt _ _) b hb hq
  have b2 := h5 s hs
  rw [hs2] at b2
  rw [h4] at b2
  omega
theorem qtr_N (ah ac : Int64) : qtr ah ac = nI (qN ah.toInt ac.toInt) := by
  unfold qtr qN
  simp only [i64_lt, i64_le, Int64.toInt_zero]
  split <;> split <;> decide +kernel
theorem ang_j {q j : Nat} (hq : q < 4) (hj : j < 91) : nI q * 90 + nI j - (nI q * 90 + nI j) / 360 * 360 = nI ((90 * q + j) % 360) := by
  have h : nI q * 90 + nI j = nI (90 * q + j) := by
    rw [show (90 : Int32) = nI 90 from by decide +kernel, pk_mul, nI_add, Nat.mul_comm]
  rw [h, show (360 : Int32) = nI 360 from by decide +kernel]
  exact pk_rem (by omega) (by omega) (by omega)
end SSpec4
