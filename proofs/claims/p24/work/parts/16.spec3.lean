/-! ===== the root, and the angle along which a vector reaches farthest ===== -/
section SSpec3
theorem lN_I {n : Nat} (h : n < 2 ^ 63) : (lN n).toInt = (n : Int) := pk_lT h
def rtF (sq : Int64) : Nat → Int64 → Int64
  | 0, r => r
  | n + 1, r => rtF sq n (if (r + lN (2 ^ n)) * (r + lN (2 ^ n)) ≤ sq then r + lN (2 ^ n) else r)
/-- the root, bit by bit -/
def RT (sq : Int64) : Int64 := rtF sq 21 0
theorem rt_hi {sq r v : Int64} {j j9 : Nat} (h : rtF sq j r = v) (e : j = j9 + 1) (h2 : ¬ sq < (r + lN (2 ^ j9)) * (r + lN (2 ^ j9))) : rtF sq j9 (r + lN (2 ^ j9)) = v := by
  subst e
  rw [rtF, if_pos] at h
  · exact h
  · rw [i64_lt] at h2
    rw [i64_le]
    omega
theorem rt_lo {sq r v : Int64} {j j9 : Nat} (h : rtF sq j r = v) (e : j = j9 + 1) (h2 : sq < (r + lN (2 ^ j9)) * (r + lN (2 ^ j9))) : rtF sq j9 r = v := by
  subst e
  rw [rtF, if_neg] at h
  · exact h
  · rw [i64_lt] at h2
    rw [i64_le]
    omega
theorem cnt_0 {x : Int32} {j N : Nat} (hx : x = nI j + -1) (h : x < 0) (hj : j ≤ N) (hN : N < 2 ^ 31) : j = 0 := by
  cases j with
  | zero => rfl
  | succ j =>
    rw [hx] at h
    rw [show nI (j + 1) + -1 = nI j from pk_m1 j] at h
    exact absurd h (nI_pos (by omega))
theorem cnt_s {x : Int32} {j : Nat} (hx : x = nI j + -1) (h : ¬ x < 0) : ∃ j9, j = j9 + 1 ∧ x = nI j9 := by
  cases j with
  | zero => rw [hx] at h; exact absurd (by decide +kernel) h
  | succ j => exact ⟨j, rfl, by rw [hx]; exact pk_m1 j⟩
theorem shl_n : ∀ k, k < 21 → (1 : Int64) <<< ((nI k).toInt64 &&& 63) = lN (2 ^ k) := by decide +kernel
theorem rtF_spec (sq : Int64) (N : Nat) (hN : sq.toInt = N) : ∀ (n r : Nat), n ≤ 21 → r + 2 ^ n ≤ 2 ^ 21 → r * r ≤ N → N < (r + 2 ^ n) * (r + 2 ^ n) → ∃ k, k < 2 ^ 21 ∧ rtF sq n (lN r) = lN k ∧ k * k ≤ N ∧ N < (k + 1) * (k + 1) := by
  intro n
  induction n with
  | zero =>
    intro r _ h1 h2 h3
    exact ⟨r, by omega, rfl, h2, h3⟩
  | succ n ih =>
    intro r h0 h1 h2 h3
    have hp : (2 : Nat) ^ (n + 1) = 2 ^ n + 2 ^ n := by rw [Nat.pow_succ]; omega
    have hpp : 0 < 2 ^ n := Nat.pow_pos (by omega)
    have hb : r + 2 ^ n ≤ 2 ^ 21 := by omega
    have hsq : (r + 2 ^ n) * (r + 2 ^ n) ≤ 2 ^ 21 * 2 ^ 21 := Nat.mul_le_mul hb hb
    have e1 : lN r + lN (2 ^ n) = lN (r + 2 ^ n) := lN_add _ _
    have e2 : lN (r + 2 ^ n) * lN (r + 2 ^ n) = lN ((r + 2 ^ n) * (r + 2 ^ n)) := lN_mul _ _
    have e3 : (lN ((r + 2 ^ n) * (r + 2 ^ n))).toInt = ((r + 2 ^ n) * (r + 2 ^ n) : Nat) := lN_I (by omega)
    rw [rtF, e1, e2]
    by_cases h : lN ((r + 2 ^ n) * (r + 2 ^ n)) ≤ sq
    · rw [if_pos h]
      rw [i64_le, e3, hN] at h
      refine ih (r + 2 ^ n) (by omega) (by omega) (by omega) ?_
      rw [show r + 2 ^ n + 2 ^ n = r + 2 ^ (n + 1) by omega]
      exact h3
    · rw [if_neg h]
      rw [i64_le, e3, hN] at h
      exact ih r (by omega) (by omega) h2 (by omega)
theorem RT_spec {sq : Int64} (h0 : 0 ≤ sq.toInt) (h1 : sq.toInt < 2 ^ 42) : ∃ k : Nat, k < 2 ^ 21 ∧ RT sq = lN k ∧ ((k * k : Nat) : Int) ≤ sq.toInt ∧ sq.toInt < ((k + 1) * (k + 1) : Nat) := by
  obtain ⟨k, h2, h3, h4, h5⟩ := rtF_spec sq sq.toInt.toNat (by omega) 21 0 (Nat.le_refl _) (by omega) (by omega) (by
    show sq.toInt.toNat < (0 + 2 ^ 21) * (0 + 2 ^ 21)
    omega)
  exact ⟨k, h2, h3, by omega, by omega⟩
theorem RT_uniq {sq : Int64} {k r : Nat} (h1 : ((k * k : Nat) : Int) ≤ sq.toInt) (h2 : sq.toInt < ((k + 1) * (k + 1) : Nat)) (h3 : ((r * r : Nat) : Int) ≤ sq.toInt) (h4 : sq.toInt < ((r + 1) * (r + 1) : Nat)) : k = r := by
  rcases Nat.lt_trichotomy k r with h | h | h
  · have := Nat.mul_le_mul (show k + 1 ≤ r from h) (show k + 1 ≤ r from h)
    omega
  · exact h
  · have := Nat.mul_le_mul (show r + 1 ≤ k from h) (show r + 1 ≤ k from h)
    omega
/-- what the vector reaches along the angle k -/
def rch (x y : Int64) (k : Nat) : Int64 := x * (cs (nI k)).toInt64 + y * (sn (nI k)).toInt64
def mB (x y : Int64) : Nat → Nat
  | 0 => 0
  | n + 1 => if rch x y (mB x y n) < rch x y (n + 1) then n + 1 else mB x y n
def ANG (x y : Int64) : Int32 := nI (mB x y 359)
theorem mB_le (x y : Int64) : ∀ n, mB x y n ≤ n := by
  intro n
  induction n with
  | zero => exact Nat.le_refl _
  | succ n ih =>
    rw [mB]
    split
    · exact Nat.le_refl _
    · omega
theorem ANG_lt (x y : Int64) : ∃ k, k < 360 ∧ ANG x y = nI k := ⟨mB x y 359, by have := mB_le x y 359; omega, rfl⟩
theorem mB_best (x y : Int64) : ∀ n k, k ≤ n → (rch x y k).toInt < (rch x y (mB x y n)).toInt ∨ (rch x y k).toInt = (rch x y (mB x y n)).toInt ∧ mB x y n ≤ k := by
  intro n
  induction n with
  | zero =>
    intro k hk
    rw [show k = 0 by omega]
    exact Or.inr ⟨rfl, Nat.le_refl _⟩
  | succ n ih =>
    intro k hk
    rw [mB]
    have hl := mB_le x y n
    by_cases h : rch x y (mB x y n) < rch x y (n + 1)
    · rw [if_pos h]
      rw [i64_lt] at h
      by_cases e : k = n + 1
      · subst e
        exact Or.inr ⟨rfl, Nat.le_refl _⟩
      · have := ih k (by omega)
        omega
    · rw [if_neg h]
      rw [i64_lt] at h
      by_cases e : k = n + 1
      · subst e
        omega
      · exact ih k (by omega)
def cI (k : Nat) : Int := (cs (nI k)).toInt
def sI (k : Nat) : Int := (sn (nI k)).toInt
theorem tab_bd : ∀ k, k < 360 → (-1000 ≤ cI k ∧ cI k ≤ 1000) ∧ (-1000 ≤ sI k ∧ sI k ≤ 1000) := by decide +kernel
/-- the angle's mirror in a quarter -/
def mir (q a : Nat) : Nat :=
  let b := if a ≤ 90 then a else if a ≤ 180 then 180 - a else if a ≤ 270 then a - 180 else 360 - a
  if q = 0 then b else if q = 1 then 180 - b else if q = 2 then 180 + b else (360 - b) % 360
def inQ (q a : Nat) : Bool := if q = 3 then decide (270 ≤ a) || decide (a = 0) else decide (90 * q ≤ a) && decide (a ≤ 90 * q + 90)
theorem inQ_s : ∀ q, q < 4 → ∀ a, a < 360 → inQ q a = true → ∃ s, s < 91 ∧ (90 * q + s) % 360 = a := by
  intro q hq a ha h
  unfold inQ at h
  by_cases h3 : q = 3
  · subst h3
    simp only [if_true, Bool.or_eq_true, decide_eq_true_eq] at h
    by_cases h0 : a = 0
    · exact ⟨90, by omega, by omega⟩
    · exact ⟨a - 270, by omega, by omega⟩
  · rw [if_neg h3] at h
    simp only [Bool.and_eq_true, decide_eq_true_eq] at h
    exact ⟨a - 90 * q, by omega, by omega⟩
theorem mir_in : ∀ q, q < 4 → ∀ a, a < 360 → (mir q a < 360 ∧ inQ q (mir q a) = true) := by decide +kernel
theorem mir_0 : ∀ a, a < 360 → inQ 0 a = false → cI a ≤ cI (mir 0 a) ∧ sI a ≤ sI (mir 0 a) ∧ (cI a < cI (mir 0 a) ∨ sI a < sI (mir 0 a)) := by decide +kernel
theorem mir_1 : ∀ a, a < 360 → inQ 1 a = false → cI (mir 1 a) ≤ cI a ∧ sI a ≤ sI (mir 1 a) ∧ (cI (mir 1 a) < cI a ∨ sI a < sI (mir 1 a)) := by decide +kernel
theorem mir_2 : ∀ a, a < 360 → inQ 2 a = false → cI (mir 2 a) ≤ cI a ∧ sI (mir 2 a) ≤ sI a ∧ (cI (mir 2 a) < cI a ∨ sI (mir 2 a) < sI a) := by decide +kernel
theorem mir_3 : ∀ a, a < 360 → inQ 3 a = false → cI a ≤ cI (mir 3 a) ∧ sI (mir 3 a) ≤ sI a ∧ (cI a < cI (mir 3 a) ∨ sI (mir 3 a) < sI a) := by decide +kernel
theorem ax_0 : cI 0 = 1000 ∧ sI 0 = 0 ∧ ∀ a, a < 360 → a ≠ 0 → cI a < 1000 := by decide +kernel
theorem ax_1 : cI 90 = 0 ∧ sI 90 = 1000 ∧ ∀ a, a < 360 → a ≠ 90 → sI a < 1000 := by decide +kernel
theorem ax_2 : cI 180 = -1000 ∧ sI 180 = 0 ∧ ∀ a, a < 360 → a ≠ 180 → -1000 < cI a := by decide +kernel
theorem ax_3 : cI 270 = 0 ∧ sI 270 = -1000 ∧ ∀ a, a < 360 → a ≠ 270 → -1000 < sI a := by decide +kernel
def rI (X Y : Int) (k : Nat) : Int := X * cI k + Y * sI k
theorem mul_le_l {X a b : Int} (hX : 0 ≤ X) (h : a ≤ b) : X * a ≤ X * b := Int.mul_le_mul_of_nonneg_left h hX
theorem mul_lt_l {X a b : Int} (hX : 0 < X) (h : a < b) : X * a < X * b := Int.mul_lt_mul_of_pos_left h hX
theorem mul_le_n {X a b : Int} (hX : X ≤ 0) (h : b ≤ a) : X * a ≤ X * b := Int.mul_le_mul_of_nonpos_left hX h
theorem mul_lt_n {X a b : Int} (hX : X < 0) (h : b < a) : X * a < X * b := by
  have := Int.mul_lt_mul_of_pos_left h (show 0 < -X by omega)
  rw [Int.neg_mul, Int.neg_mul] at this
  omega
/-- the quarter of a vector -/
def qN (X Y : Int) : Nat := if Y < 0 then (if 0 ≤ X then 3 else 2) else (if X < 0 then 1 else 0)
/-- whatever lies outside the vector's own quarter is reached by something within -/
theorem dom (X Y : Int) (a : Nat) (ha : a < 360) : ∃ b, b < 360 ∧ inQ (qN X Y) b = true ∧ (rI X Y a < rI X Y b ∨ rI X Y a = rI X Y b ∧ b ≤ a) := by
  by_cases hi : inQ (qN X Y) a = true
  · exact ⟨a, ha, hi, Or.inr ⟨rfl, Nat.le_refl _⟩⟩
  have hi' : inQ (qN X Y) a = false := by simpa using hi
  unfold qN at hi' ⊢
  unfold rI
  by_cases hY : Y < 0
  · rw [if_pos hY] at hi' ⊢
    by_cases hX : 0 ≤ X
    · rw [if_pos hX] at hi' ⊢
      by_cases hX0 : X = 0
      · refine ⟨270, by omega, by decide, Or.inl ?_⟩
        have h := ax_3.2.2 a ha (fun e => by rw [e] at hi'; exact absurd hi' (by decide))
        have := mul_lt_n hY h
        rw [ax_3.1, ax_3.2.1, hX0]
        omega
      · obtain ⟨h1, h2⟩ := mir_in 3 (by omega) a ha
        obtain ⟨g1, g2, g3⟩ := mir_3 a ha hi'
        refine ⟨mir 3 a, h1, h2, Or.inl ?_⟩
        have p1 := mul_le_l hX g1
        have p2 := mul_le_n (show Y ≤ 0 by omega) g2
        rcases g3 with g | g
        · have := mul_lt_l (show 0 < X by omega) g
          omega
        · have := mul_lt_n hY g
          omega
    · rw [if_neg hX] at hi' ⊢
      obtain ⟨h1, h2⟩ := mir_in 2 (by omega) a ha
      obtain ⟨g1, g2, g3⟩ := mir_2 a ha hi'
      refine ⟨mir 2 a, h1, h2, Or.inl ?_⟩
      have p1 := mul_le_n (show X ≤ 0 by omega) g1
      have p2 := mul_le_n (show Y ≤ 0 by omega) g2
      rcases g3 with g | g
      · have := mul_lt_n (show X < 0 by omega) g
        omega
      · have := mul_lt_n hY g
        omega
  · rw [if_neg hY] at hi' ⊢
    by_cases hX : X < 0
    · rw [if_pos hX] at hi' ⊢
      by_cases hY0 : Y = 0
      · refine ⟨180, by omega, by decide, Or.inl ?_⟩
        have h := ax_2.2.2 a ha (fun e => by rw [e] at hi'; exact absurd hi' (by decide))
        have := mul_lt_n hX h
        rw [ax_2.1, ax_2.2.1, hY0]
        omega
      · obtain ⟨h1, h2⟩ := mir_in 1 (by omega) a ha
        obtain ⟨g1, g2, g3⟩ := mir_1 a ha hi'
        refine ⟨mir 1 a, h1, h2, Or.inl ?_⟩
        have p1 := mul_le_n (show X ≤ 0 by omega) g1
        have p2 := mul_le_l (show 0 ≤ Y by omega) g2
        rcases g3 with g | g
        · have := mul_lt_n hX g
          omega
        · have := mul_lt_l (show 0 < Y by omega) g
          omega
    · rw [if_neg hX] at hi' ⊢
      by_cases hX0 : X = 0
      · by_cases hY0 : Y = 0
        · refine ⟨0, by omega, by decide, Or.inr ⟨?_, by omega⟩⟩
          rw [hX0, hY0]
          omega
        · refine ⟨90, by omega, by decide, Or.inl ?_⟩
          have h := ax_1.2.2 a ha (fun e => by rw [e] at hi'; exact absurd hi' (by decide))
          have := mul_lt_l (show 0 < Y by omega) h
          rw [ax_1.1, ax_1.2.1, hX0]
          omega
      · by_cases hY0 : Y = 0
        · refine ⟨0, by omega, by decide, Or.inl ?_⟩
          have h := ax_0.2.2 a ha (fun e => by rw [e] at hi'; exact absurd hi' (by decide))
          have := mul_lt_l (show 0 < X by omega) h
          rw [ax_0.1, ax_0.2.1, hY0]
          omega
        · obtain ⟨h1, h2⟩ := mir_in 0 (by omega) a ha
          obtain ⟨g1, g2, g3⟩ := mir_0 a ha hi'
          refine ⟨mir 0 a, h1, h2, Or.inl ?_⟩
          have p1 := mul_le_l (show 0 ≤ X by omega) g1
          have p2 := mul_le_l (show 0 ≤ Y by omega) g2
          rcases g3 with g | g
          · have := mul_lt_l (show 0 < X by omega) g
            omega
          · have := mul_lt_l (show 0 < Y by omega) g
            omega
end SSpec3
