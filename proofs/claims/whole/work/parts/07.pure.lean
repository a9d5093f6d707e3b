/-! The pure picture of the acts: X r i is the number in row r (0 kind, 1 a, 2 b, 3 VALID, 4 KNOWN) of act i; n acts. -/
abbrev AF : Type := Nat → Nat → Int32
def win (x lo hi : Int32) : Bool := decide (lo ≤ x) && decide (x ≤ hi)
/-- act i as it may have been told -/
def aok1 (X : AF) (i : Nat) : Prop :=
  (∃ v, v ≤ 10000 ∧ X 3 i = nI v) ∧ ((X 0 i = nI 0 ∧ (∃ a, a < 20 ∧ X 1 i = nI a) ∧ ∃ b, b < 100 ∧ X 2 i = nI b) ∨ (X 0 i = nI 1 ∧ ∃ a, a < 20 ∧ X 1 i = nI a) ∨ (X 0 i = nI 2 ∧ ∃ a, a < 10 ∧ X 1 i = nI a) ∨ (X 0 i = nI 3 ∧ ∃ a, a < 10 ∧ X 1 i = nI a) ∨
    (X 0 i = nI 4 ∧ (∃ a, a < 10 ∧ X 1 i = nI a) ∧ ∃ b, 1 ≤ b ∧ b ≤ 1000 ∧ X 2 i = nI b) ∨ (X 0 i = nI 5 ∧ ∃ a, a < i ∧ X 1 i = nI a))
def aok (X : AF) (n : Nat) : Prop := n ≤ 80 ∧ ∀ i, i < n → aok1 X i
/-- act j says that e is void, as known at k -/
def vdc (X : AF) (e : Nat) (k : Int32) (j : Nat) : Bool := decide (X 0 j = nI 5) && (decide (X 1 j = nI e) && decide (X 4 j ≤ k))
def vdB (X : AF) (n e : Nat) (k : Int32) : Bool := (List.range n).any (vdc X e k)
theorem vdB_t {X : AF} {n e : Nat} {k : Int32} {j : Nat} (hj : j < n) (h : vdc X e k j = true) : vdB X n e k = true := List.any_eq_true.mpr ⟨j, List.mem_range.mpr hj, h⟩
theorem vdB_f {X : AF} {n e : Nat} {k : Int32} (h : ∀ j, j < n → vdc X e k j = false) : vdB X n e k = false := by
  unfold vdB
  rw [List.any_eq_false]
  intro j hj
  rw [h j (List.mem_range.mp hj)]
  exact Bool.false_ne_true
theorem vdc_t {X : AF} {e : Nat} {k : Int32} {j : Nat} (h0 : X 0 j = nI 5) (h1 : X 1 j = nI e) (h4 : X 4 j ≤ k) : vdc X e k j = true := by
  unfold vdc; rw [decide_eq_true h0, decide_eq_true h1, decide_eq_true h4]; rfl
theorem vdc_f0 {X : AF} {e : Nat} {k : Int32} {j : Nat} (h0 : ¬ X 0 j = nI 5) : vdc X e k j = false := by
  unfold vdc; rw [decide_eq_false h0]; rfl
theorem vdc_f1 {X : AF} {e : Nat} {k : Int32} {j : Nat} (h0 : ¬ X 1 j = nI e) : vdc X e k j = false := by
  unfold vdc; rw [decide_eq_false h0, Bool.false_and, Bool.and_false]
theorem vdc_f4 {X : AF} {e : Nat} {k : Int32} {j : Nat} (h0 : ¬ X 4 j ≤ k) : vdc X e k j = false := by
  unfold vdc; rw [decide_eq_false h0, Bool.and_false, Bool.and_false]
/-- an act can only void an earlier one -/
theorem vdc_early {X : AF} {n e : Nat} {k : Int32} {j : Nat} (hA : aok X n) (hj : j < n) (hje : j ≤ e) (he : e < 2147483648) : vdc X e k j = false := by
  by_cases h5 : X 0 j = nI 5
  · obtain ⟨-, h⟩ := hA.2 j hj
    have h80 := hA.1
    rcases h with h | h | h | h | h | h
    · rw [h.1] at h5; exact absurd h5 (by decide)
    · rw [h.1] at h5; exact absurd h5 (by decide)
    · rw [h.1] at h5; exact absurd h5 (by decide)
    · rw [h.1] at h5; exact absurd h5 (by decide)
    · rw [h.1] at h5; exact absurd h5 (by decide)
    · obtain ⟨a, ha, e1⟩ := h.2
      refine vdc_f1 (fun e2 => ?_)
      rw [e1] at e2
      have := (nI_eq (a := a) (b := e) (by omega) he).mp e2
      omega
  · exact vdc_f0 h5
/-- act e is among those as of t and known at k -/
def hdB (X : AF) (n : Nat) (t k : Int32) (e : Nat) : Bool := !decide (X 0 e = nI 5) && (decide (X 3 e ≤ t) && (decide (X 4 e ≤ k) && !vdB X n e k))
/-- the order of two acts by VALID and KIND -/
def ahB (X : AF) (a b : Nat) : Bool := if X 3 a = X 3 b then decide (X 0 a < X 0 b) else decide (X 3 a < X 3 b)
/-- how many of 0 .. i - 1 are p -/
def cntB (p : Nat → Bool) : Nat → Nat
  | 0 => 0
  | i + 1 => cntB p i + cond (p i) 1 0
theorem cntB_le (p : Nat → Bool) (i : Nat) : cntB p i ≤ i := by
  induction i with
  | zero => exact Nat.le_refl _
  | succ i ih =>
    show cntB p i + cond (p i) 1 0 ≤ i + 1
    cases p i <;> simp <;> omega
/-- what can be told -/
def tellB (X : AF) (n : Nat) (kd a b : Int32) : Bool :=
  if kd = nI 0 then win a (nI 0) (nI 19) && win b (nI 0) (nI 99)
  else if kd = nI 1 then win a (nI 0) (nI 19) && decide (b = nI 0)
  else if kd = nI 2 then win a (nI 0) (nI 9) && win b (nI 0) (nI 5)
  else if kd = nI 3 then win a (nI 0) (nI 9) && win b (-1000000) 1000000
  else if kd = nI 4 then win a (nI 0) (nI 9) && win b (nI 1) (nI 1000)
  else if kd = nI 5 then (decide (nI 0 ≤ a) && decide (a < nI n)) && (!decide (X 0 a.toNatClampNeg = nI 5) && decide (b = nI 0))
  else false
