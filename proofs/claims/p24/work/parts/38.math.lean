/-! ===== numbers of the law ===== -/
section SMathP
theorem rem_k {a d : Nat} {D : Int32} (hD : D = nI d) (ha : a < 2 ^ 31) (h0 : 0 < d ∧ d < 2 ^ 31) : nI a - nI a / D * D = nI (a % d) := by
  rw [hD]
  exact pk_rem ha h0.1 h0.2
theorem div_k {a d : Nat} {D : Int32} (hD : D = nI d) (ha : a < 2 ^ 31) (h0 : 0 < d ∧ d < 2 ^ 31) : nI a / D = nI (a / d) := by
  rw [hD]
  exact pk_div ha h0.1 h0.2
theorem add_k {a b : Nat} {D : Int32} (hD : D = nI b) : nI a + D = nI (a + b) := by
  rw [hD]
  exact nI_add a b
theorem add_l {a b : Nat} {D : Int32} (hD : D = nI b) : D + nI a = nI (b + a) := by
  rw [hD]
  exact nI_add b a
theorem mul_l {a b : Nat} {D : Int32} (hD : D = nI b) : D * nI a = nI (b * a) := by
  rw [hD]
  exact pk_mul b a
theorem no_hi {k m : Nat} {M y : Int32} (hM : M = nI m) (h : m < k) (hk : k < 2 ^ 31) : ¬ (y ≤ nI k ∧ nI k ≤ M) := by
  intro q
  rw [hM, nI_leI hk (by omega)] at q
  omega
theorem no_lo {k : Nat} {y M d : Int32} {D Y : Int} (hd : d.toInt = D) (hy : y.toInt = Y) (hk : k < 2 ^ 30) (hD : -100000 ≤ D ∧ D ≤ 100000) (h : D - k < Y) : ¬ (y ≤ d - nI k ∧ d - nI k ≤ M) := by
  intro q
  have e : (d - nI k).toInt = D - k := by rw [i32_sub (by rw [hd, nI_toInt (by omega)]; omega) (by rw [hd, nI_toInt (by omega)]; omega), hd, nI_toInt (by omega)]
  rw [i32_le, e, hy] at q
  omega
theorem in_k {k m : Nat} {M : Int32} (hM : M = nI m) (h : k ≤ m) (hm : m < 2 ^ 31) : 0 ≤ nI k ∧ nI k ≤ M := by
  rw [hM, nI_leI (by omega) hm, ← nI_0, nI_leI (by omega) (by omega)]
  omega
theorem in_l {k l m : Nat} {L M : Int32} (hL : L = nI l) (hM : M = nI m) (hl : l ≤ k) (h : k ≤ m) (hm : m < 2 ^ 31) : L ≤ nI k ∧ nI k ≤ M := by
  rw [hM, hL, nI_leI (by omega) hm, nI_leI (by omega) (by omega)]
  omega
theorem in_m {a : Nat} (h : a < 41) : (-20) ≤ nI a - 20 ∧ nI a - 20 ≤ 20 := by
  have c1 : (20 : Int32).toInt = 20 := by decide +kernel
  have c2 : (-20 : Int32).toInt = -20 := by decide +kernel
  rw [i32_le, i32_le, i32_sub (by rw [c1, nI_toInt (by omega)]; omega) (by rw [c1, nI_toInt (by omega)]; omega), c1, c2, nI_toInt (by omega)]
  omega
theorem ok_k {c : Int32} {n k : Nat} (hc : c = nI n) (hn : n ≤ 60) (hk : k < n) : 0 ≤ nI k ∧ nI k ≤ c - 1 := by
  rw [hc, i32_le, i32_le, sub1_int hn, nI_toInt (by omega), Int32.toInt_zero]
  omega
theorem no_ent {c : Int32} {n j : Nat} (hc : c = nI n) (hn : n ≤ 60) (h : n ≤ j) (hj : j < 2 ^ 30) : ¬ (0 ≤ nI j ∧ nI j ≤ c - 1) := by
  intro q
  rw [hc, i32_le, i32_le, sub1_int hn, nI_toInt (by omega), Int32.toInt_zero] at q
  omega
theorem iN_k {k : Nat} (h : k < 2 ^ 30) : iN (nI k) = k := iN_n (by omega)
/-- the first of the greatest above 0 -/
theorem upB_spec (g : Nat → Int32) (lo : Nat) : ∀ j, ((upB g lo j).1 = -1 ∧ (upB g lo j).2 = 0 ∧ ∀ i, i < j → (g (lo + i)).toInt ≤ 0) ∨ ∃ i, i < j ∧ (upB g lo j).1 = nI (lo + i) ∧ (upB g lo j).2 = g (lo + i) ∧ 0 < (g (lo + i)).toInt ∧ ∀ i', i' < j → (g (lo + i')).toInt < (g (lo + i)).toInt ∨ ((g (lo + i')).toInt = (g (lo + i)).toInt ∧ i ≤ i') := by
  intro j
  induction j with
  | zero => exact Or.inl ⟨rfl, rfl, fun i hi => absurd hi (by omega)⟩
  | succ j ih =>
    rw [upB]
    by_cases q : (upB g lo j).2 < g (lo + j)
    · rw [if_pos q]
      rw [i32_lt] at q
      refine Or.inr ⟨j, by omega, rfl, rfl, ?_, fun i' hi' => ?_⟩
      · rcases ih with ⟨-, e, -⟩ | ⟨i, -, -, e, h, -⟩
        · rw [e, Int32.toInt_zero] at q
          exact q
        · rw [e] at q
          omega
      · by_cases e9 : i' = j
        · subst e9
          exact Or.inr ⟨rfl, Nat.le_refl _⟩
        · rcases ih with ⟨-, e, h⟩ | ⟨i, -, -, e, -, h⟩
          · rw [e, Int32.toInt_zero] at q
            have := h i' (by omega)
            exact Or.inl (by omega)
          · rw [e] at q
            have := h i' (by omega)
            exact Or.inl (by omega)
    · rw [if_neg q]
      rw [i32_lt] at q
      rcases ih with ⟨a, e, h⟩ | ⟨i, hi, a, e, h0, h⟩
      · refine Or.inl ⟨a, e, fun i' hi' => ?_⟩
        by_cases e9 : i' = j
        · subst e9
          rw [e, Int32.toInt_zero] at q
          omega
        · exact h i' (by omega)
      · refine Or.inr ⟨i, by omega, a, e, h0, fun i' hi' => ?_⟩
        by_cases e9 : i' = j
        · subst e9
          rw [e] at q
          by_cases e8 : (g (lo + i')).toInt = (g (lo + i)).toInt
          · exact Or.inr ⟨e8, by omega⟩
          · exact Or.inl (by omega)
        · exact h i' (by omega)
theorem fmx_ge {sp ws wa : Nat → Int32} {r c : Int32} : ∀ n k, k < n → rowI (wa k) = r → colI (ws k) = c → (sp k).toInt ≤ (fmx sp ws wa r c n).toInt := by
  intro n
  induction n with
  | zero => intro k h; omega
  | succ n ih =>
    intro k hk h1 h2
    rw [fmx]
    by_cases e : k = n
    · subst e
      rw [if_pos ⟨h1, h2⟩]
      by_cases q : fmx sp ws wa r c k < sp k
      · rw [if_pos q]
        exact Int.le_refl _
      · rw [if_neg q]
        rw [i32_lt] at q
        omega
    · have := ih k (by omega) h1 h2
      by_cases q : rowI (wa n) = r ∧ colI (ws n) = c
      · rw [if_pos q]
        by_cases q2 : fmx sp ws wa r c n < sp n
        · rw [if_pos q2]
          rw [i32_lt] at q2
          omega
        · rw [if_neg q2]
          exact this
      · rw [if_neg q]
        exact this
/-- the losses of all entries together -/
def lsF (L : Nat → Int32) : Nat → Int32
  | 0 => 0
  | i + 1 => lsF L i + L i
theorem sd_3 (a : Int32) : sdI a = 0 ∨ sdI a = 1 ∨ sdI a = 2 := by
  unfold sdI
  split
  · exact Or.inl rfl
  · split
    · exact Or.inr (Or.inl rfl)
    · exact Or.inr (Or.inr rfl)
theorem kind_c (wa : Nat → Int32) (i : Nat) : kindF wa i = 0 ∨ (0 < i ∧ sdI (wa i) + sdI (wa (i - 1)) = 3 ∧ ((kindF wa i = 1 ∧ opn (wa (i - 1)) + opn (wa i) < 180) ∨ (kindF wa i = 2 ∧ ¬ opn (wa (i - 1)) + opn (wa i) < 180))) := by
  unfold kindF
  by_cases h : i = 0
  · rw [if_pos h]
    exact Or.inl rfl
  · rw [if_neg h]
    by_cases h2 : sdI (wa i) = 0 ∨ sdI (wa (i - 1)) = 0 ∨ sdI (wa i) = sdI (wa (i - 1))
    · rw [if_pos h2]
      exact Or.inl rfl
    · rw [if_neg h2]
      refine Or.inr ⟨by omega, ?_, ?_⟩
      · rcases sd_3 (wa i) with e | e | e
        · exact absurd (Or.inl e) h2
        · rcases sd_3 (wa (i - 1)) with f | f | f
          · exact absurd (Or.inr (Or.inl f)) h2
          · exact absurd (Or.inr (Or.inr (e.trans f.symm))) h2
          · rw [e, f]; decide +kernel
        · rcases sd_3 (wa (i - 1)) with f | f | f
          · exact absurd (Or.inr (Or.inl f)) h2
          · rw [e, f]; decide +kernel
          · exact absurd (Or.inr (Or.inr (e.trans f.symm))) h2
      · by_cases h3 : opn (wa (i - 1)) + opn (wa i) < 180
        · rw [if_pos h3]
          exact Or.inl ⟨rfl, h3⟩
        · rw [if_neg h3]
          exact Or.inr ⟨rfl, h3⟩
theorem ls_costs {wa mi sp : Nat → Int32} {n : Nat} : ∀ j, lsF (lossF wa mi sp n) j = costF wa mi sp n 1 j + costF wa mi sp n 2 j := by
  intro j
  induction j with
  | zero => exact (by decide +kernel : (0 : Int32) = 0 + 0)
  | succ j ih =>
    rw [lsF, costF, costF, ih]
    rcases kind_c wa j with h | ⟨-, -, ⟨h, -⟩ | ⟨h, -⟩⟩
    · rw [← loss_0 h, h, if_neg (by decide +kernel), if_neg (by decide +kernel), Int32.add_zero]
    · rw [h, if_pos rfl, if_neg (by decide +kernel), Int32.add_assoc, Int32.add_comm (costF wa mi sp n 2 j), ← Int32.add_assoc]
    · rw [h, if_pos rfl, if_neg (by decide +kernel), Int32.add_assoc]
theorem slow_nn {mi sp : Nat → Int32} {b : Int32} {i n : Nat} (hi : 1 ≤ i) (hb : 0 ≤ b.toInt ∧ b.toInt ≤ 450) (hs : ∀ k, k < n → 0 ≤ (sp k).toInt ∧ (sp k).toInt ≤ 450) (hm : ∀ k, k < n → ∃ a, a < 1440 ∧ mi k = nI a) (hmo : ∀ k, k + 1 < n → (mi k).toInt < (mi (k + 1)).toInt) : ∀ j, j ≤ 3 → i + j ≤ n → 0 ≤ (slowS mi sp b i j).toInt ∧ (slowS mi sp b i j).toInt ≤ j * 647550 := by
  intro j
  induction j with
  | zero => intro _ _; exact ⟨(by decide +kernel : 0 ≤ (0 : Int32).toInt), (by decide +kernel : (0 : Int32).toInt ≤ (0 : Nat) * 647550)⟩
  | succ j ih =>
    intro hj hn
    have i1 := ih (by omega) (by omega)
    have s1 := hs (i + j) (by omega)
    obtain ⟨a, ha, ea⟩ := hm (i + j) (by omega)
    obtain ⟨a', ha', ea'⟩ := hm (i + j - 1) (by omega)
    have o := hmo (i + j - 1) (by omega)
    rw [show i + j - 1 + 1 = i + j by omega, ea, ea', nI_toInt (by omega), nI_toInt (by omega)] at o
    have d1 : (mi (i + j) - mi (i + j - 1)).toInt = (a : Int) - a' := by rw [ea, ea', i32_sub (by rw [nI_toInt (by omega), nI_toInt (by omega)]; omega) (by rw [nI_toInt (by omega), nI_toInt (by omega)]; omega), nI_toInt (by omega), nI_toInt (by omega)]
    have d2 : (b - sp (i + j)).toInt = b.toInt - (sp (i + j)).toInt := i32_sub (by omega) (by omega)
    have d3 : 0 ≤ (if b - sp (i + j) < 0 then 0 else b - sp (i + j)).toInt ∧ (if b - sp (i + j) < 0 then 0 else b - sp (i + j)).toInt ≤ 450 := by
      by_cases q : b - sp (i + j) < 0
      · rw [if_pos q, Int32.toInt_zero]
        omega
      · rw [if_neg q]
        rw [i32_lt, Int32.toInt_zero] at q
        omega
    rw [slowS]
    generalize (if b - sp (i + j) < 0 then 0 else b - sp (i + j)) = U at d3 ⊢
    generalize mi (i + j) - mi (i + j - 1) = V at d1 ⊢
    have p0 : 0 ≤ U.toInt * V.toInt := Int.mul_nonneg d3.1 (by omega)
    have p1 : U.toInt * V.toInt ≤ 450 * 1439 := Int.mul_le_mul d3.2 (by omega) (by omega) (by omega)
    have p2 : (U * V).toInt = U.toInt * V.toInt := i32_mul (by omega) (by omega)
    rw [i32_add (by omega) (by omega), p2]
    omega
theorem loss_nn {wa mi sp : Nat → Int32} {n i : Nat} (hs : ∀ k, k < n → 0 ≤ (sp k).toInt ∧ (sp k).toInt ≤ 450) (hm : ∀ k, k < n → ∃ a, a < 1440 ∧ mi k = nI a) (hmo : ∀ k, k + 1 < n → (mi k).toInt < (mi (k + 1)).toInt) (hi : i < n) : 0 ≤ (lossF wa mi sp n i).toInt := by
  by_cases h : kindF wa i = 0
  · rw [← loss_0 h]
    decide +kernel
  · have hp := kind_pos h
    rw [lossF, if_neg h]
    exact (slow_nn hp (hs (i - 1) (by omega)) hs hm hmo (endF n i - i) (by unfold endF; split <;> omega) (by unfold endF; split <;> omega)).1
/-- sines -/
theorem sn_90 {x : Int32} (h : x.toInt < 1000000) : sn (x + 90) = cs x := by
  unfold sn cs
  congr 1
  have c9 : (90 : Int32).toInt = 90 := by decide +kernel
  have h0 := i32_rng x
  have e0 := t360_int x
  apply i32_ext
  rw [t360_int, t360_int, i32_add (by omega) (by omega), i32_add (by rw [e0]; omega) (by rw [e0]; omega), c9, e0]
  omega
theorem sn_row : ∀ r, r < 19 → sn (if r = 18 then 270 else nI (10 * r + 95)) = cs (midI (nI r)) := by decide +kernel
def opI (x : Int32) : Int32 := if 180 < x then 360 - x else x
theorem opI_n : ∀ j, j < 360 → opI (nI j) = opn (nI j) := by decide +kernel
theorem ang_f {f h : Nat} (hf : f < 360) (hh : h < 360) : nI f - nI h + 360 - (nI f - nI h + 360) / 360 * 360 = t360 (nI f + -nI h) := by
  have e : nI f - nI h + 360 = nI (f + 360 - h) := by
    apply i32_ext
    have c3 : (360 : Int32).toInt = 360 := by decide +kernel
    have d1 : (nI f - nI h).toInt = (f : Int) - h := by rw [i32_sub (by rw [nI_toInt (by omega), nI_toInt (by omega)]; omega) (by rw [nI_toInt (by omega), nI_toInt (by omega)]; omega), nI_toInt (by omega), nI_toInt (by omega)]
    rw [i32_add (by omega) (by omega), d1, c3, nI_toInt (by omega)]
    omega
  rw [e, rem_k (d := 360) (by decide +kernel) (by omega) (by omega)]
  apply i32_ext
  rw [t360_int, ← Int32.sub_eq_add_neg, i32_sub (by rw [nI_toInt (by omega), nI_toInt (by omega)]; omega) (by rw [nI_toInt (by omega), nI_toInt (by omega)]; omega), nI_toInt (by omega), nI_toInt (by omega), nI_toInt (by omega)]
  omega
/-- where the wind comes from, turned on -/
theorem from_tw {a j mm : Nat} {c : Int32} (ha : a < 360) (hj : j < 360) (hm : mm < 360) (hc : -20 ≤ c.toInt ∧ c.toInt ≤ 20) : (t360 (t360 (nI a + c) + nI j) + nI mm) - (t360 (t360 (nI a + c) + nI j) + nI mm) / 360 * 360 = t360 (t360 (nI ((a + mm) % 360) + c) + nI j) := by
  have e1 : (nI a + c).toInt = (a : Int) + c.toInt := by rw [i32_add (by rw [nI_toInt (by omega)]; omega) (by rw [nI_toInt (by omega)]; omega), nI_toInt (by omega)]
  have e2 : (nI ((a + mm) % 360) + c).toInt = ((a + mm) % 360 : Nat) + c.toInt := by rw [i32_add (by rw [nI_toInt (by omega)]; omega) (by rw [nI_toInt (by omega)]; omega), nI_toInt (by omega)]
  have f1 := t360_int (nI a + c)
  have f2 := t360_int (nI ((a + mm) % 360) + c)
  rw [e1] at f1
  rw [e2] at f2
  have g1 : (t360 (nI a + c) + nI j).toInt = ((a : Int) + c.toInt) % 360 + j := by rw [i32_add (by rw [f1, nI_toInt (by omega)]; omega) (by rw [f1, nI_toInt (by omega)]; omega), f1, nI_toInt (by omega)]
  have g2 : (t360 (nI ((a + mm) % 360) + c) + nI j).toInt = (((a + mm) % 360 : Nat) + c.toInt) % 360 + j := by rw [i32_add (by rw [f2, nI_toInt (by omega)]; omega) (by rw [f2, nI_toInt (by omega)]; omega), f2, nI_toInt (by omega)]
  have k1 := k360_int (t360 (nI a + c) + nI j)
  have k2 := k360_lt (t360 (nI a + c) + nI j)
  rw [g1] at k1
  show nI (k360 (t360 (nI a + c) + nI j)) + nI mm - (nI (k360 (t360 (nI a + c) + nI j)) + nI mm) / 360 * 360 = _
  rw [nI_add, rem_k (d := 360) (by decide +kernel) (by omega) (by omega)]
  apply i32_ext
  rw [t360_int, g2, nI_toInt (by omega)]
  omega
end SMathP
