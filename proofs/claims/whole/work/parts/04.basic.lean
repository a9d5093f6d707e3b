/-! Rows on numbers: nI n is the Int32 of a Nat; bI is a boolean's int. -/
def bI (b : Bool) : Int32 := cond b (nI 1) (nI 0)
theorem bI_t {b : Bool} (h : b = true) : nI 1 = bI b := by rw [h]; rfl
theorem bI_f {b : Bool} (h : b = false) : nI 0 = bI b := by rw [h]; rfl
theorem bI_0 {b : Bool} (h : bI b = nI 0) : b = false := by
  cases b
  · rfl
  · exact absurd h (by decide)
theorem bI_1 {b : Bool} (h : ¬ bI b = nI 0) : b = true := by
  cases b
  · exact absurd (by decide) h
  · rfl
theorem bI_nar (b : Bool) : narrow .boolean (.int (bI b)) = .int (bI b) := by cases b <;> rfl
theorem jn_inc (i : Nat) : nI i + Int32.ofInt 1 = nI (i + 1) := nI_1 i
theorem jn_m1 : Int32.ofInt (-1) = -1 := by decide
theorem jn_dec {i : Nat} (h : 0 < i) : nI i + Int32.ofInt (-1) = nI (i - 1) := by rw [jn_m1]; exact sb_m1 h
theorem jn_of {x : Int32} {k : Nat} (hk : k < 2147483648) (h : x.toInt = (k : Int)) : x = nI k := Int32.toInt_inj.mp (h.trans (nI_toInt hk).symm)
theorem jn_lt {x y : Int32} : x < y ↔ x.toInt < y.toInt := Int32.lt_iff_toInt_lt
theorem jn_le {x y : Int32} : x ≤ y ↔ x.toInt ≤ y.toInt := Int32.le_iff_toInt_le
theorem jn_nlt {x y : Int32} (h : ¬ x < y) : y ≤ x := by
  rw [jn_lt] at h
  rw [jn_le]
  omega
theorem jn_nle {x y : Int32} (h : ¬ x ≤ y) : y < x := by
  rw [jn_le] at h
  rw [jn_lt]
  omega
theorem jn_sw3 (x : Int32) : (x.toInt = 0 ∧ x = nI 0) ∨ (x.toInt = 1 ∧ x = nI 1) ∨ (x.toInt = 2 ∧ x = nI 2) ∨ (x.toInt = 3 ∧ x = nI 3) ∨ ((x.toInt < 0 ∨ 3 < x.toInt) ∧ ∀ k, k ≤ 3 → x ≠ nI k) := by
  by_cases h0 : x.toInt = 0
  · exact Or.inl ⟨h0, jn_of (by decide) h0⟩
  by_cases h1 : x.toInt = 1
  · exact Or.inr (Or.inl ⟨h1, jn_of (by decide) h1⟩)
  by_cases h2 : x.toInt = 2
  · exact Or.inr (Or.inr (Or.inl ⟨h2, jn_of (by decide) h2⟩))
  by_cases h3 : x.toInt = 3
  · exact Or.inr (Or.inr (Or.inr (Or.inl ⟨h3, jn_of (by decide) h3⟩)))
  refine Or.inr (Or.inr (Or.inr (Or.inr ⟨by omega, fun k hk e => ?_⟩)))
  have := nI_toInt (n := k) (by omega)
  rw [← e] at this
  omega
theorem jn_sw5 (x : Int32) : (x.toInt = 0 ∧ x = nI 0) ∨ (x.toInt = 1 ∧ x = nI 1) ∨ (x.toInt = 2 ∧ x = nI 2) ∨ (x.toInt = 3 ∧ x = nI 3) ∨ (x.toInt = 4 ∧ x = nI 4) ∨ (x.toInt = 5 ∧ x = nI 5) ∨ ((x.toInt < 0 ∨ 5 < x.toInt) ∧ ∀ k, k ≤ 5 → x ≠ nI k) := by
  by_cases h0 : x.toInt = 0
  · exact Or.inl ⟨h0, jn_of (by decide) h0⟩
  by_cases h1 : x.toInt = 1
  · exact Or.inr (Or.inl ⟨h1, jn_of (by decide) h1⟩)
  by_cases h2 : x.toInt = 2
  · exact Or.inr (Or.inr (Or.inl ⟨h2, jn_of (by decide) h2⟩))
  by_cases h3 : x.toInt = 3
  · exact Or.inr (Or.inr (Or.inr (Or.inl ⟨h3, jn_of (by decide) h3⟩)))
  by_cases h4 : x.toInt = 4
  · exact Or.inr (Or.inr (Or.inr (Or.inr (Or.inl ⟨h4, jn_of (by decide) h4⟩))))
  by_cases h5 : x.toInt = 5
  · exact Or.inr (Or.inr (Or.inr (Or.inr (Or.inr (Or.inl ⟨h5, jn_of (by decide) h5⟩)))))
  refine Or.inr (Or.inr (Or.inr (Or.inr (Or.inr (Or.inr ⟨by omega, fun k hk e => ?_⟩)))))
  have := nI_toInt (n := k) (by omega)
  rw [← e] at this
  omega
