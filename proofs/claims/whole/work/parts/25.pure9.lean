/-- act j of the order, if there is one -/
def fo (X : AF) (n : Nat) (t k : Int32) (j : Nat) : Option Nat := if j < (ordL X n t k).length then some ((ordL X n t k).getD j 0) else none
theorem fo_t {X : AF} {n : Nat} {t k : Int32} {j : Nat} (h : j < (ordL X n t k).length) : fo X n t k j = some ((ordL X n t k).getD j 0) := if_pos h
theorem fo_f {X : AF} {n : Nat} {t k : Int32} {j : Nat} (h : (ordL X n t k).length ≤ j) : fo X n t k j = none := if_neg (by omega)
theorem sl_neg {sl : Nat → Int32} (h : slOk sl) {b : Nat} (hb : b < 20) : (sl b < nI 0 → sl b = -1) ∧ (¬ sl b < nI 0 → ¬ sl b = -1) := by
  constructor
  · intro q
    rcases h b hb with e | ⟨s, hs, e⟩
    · exact e
    · rw [e] at q
      exact absurd ((nI_ltI (by omega) (by omega)).mp q) (Nat.not_lt_zero _)
  · intro q e
    rw [e] at q
    exact q (by decide)
theorem lyT_get {sl : Nat → Int32} {b j : Nat} (d : Nat) (h : j < (lyT sl b).length) : (lyT sl (b + d)).getD j 0 = (lyT sl b).getD j 0 := by
  induction d with
  | zero => rfl
  | succ d ih =>
    by_cases e : sl (b + d) = -1
    · rw [← Nat.add_assoc, lyT_f e]; exact ih
    · rw [← Nat.add_assoc, lyT_t e, List.getD_eq_getElem?_getD, List.getElem?_append_left (Nat.lt_of_lt_of_le h (lyT_mono sl b d)), ← List.getD_eq_getElem?_getD]
      exact ih
theorem lyT_at {sl : Nat → Int32} {b : Nat} (hb : b < 20) (h : ¬ sl b = -1) : (lyT sl 20).getD (lyT sl b).length 0 = sN sl b := by
  have h1 : (lyT sl b).length < (lyT sl (b + 1)).length := by rw [lyT_t h, List.length_append]; simp
  have h2 := lyT_get (20 - (b + 1)) h1
  rw [show b + 1 + (20 - (b + 1)) = 20 by omega, lyT_t h] at h2
  rw [h2, List.getD_eq_getElem?_getD, List.getElem?_append_right (Nat.le_refl _), Nat.sub_self]; rfl
theorem lyT_len (sl : Nat → Int32) (b : Nat) : (lyT sl b).length ≤ b := by
  induction b with
  | zero => exact Nat.le_refl _
  | succ b ih =>
    by_cases e : sl b = -1
    · rw [lyT_f e]; omega
    · rw [lyT_t e, List.length_append]; simp; omega
theorem bit_sh1 : ∀ t, t < 64 → ∀ s, s < 6 → ((nI t >>> (nI s &&& 31)) &&& nI 1) = nI (t / 2 ^ s % 2) := by decide +kernel
theorem bit_tb : ∀ t, t < 64 → ∀ s, s < 6 → (t / 2 ^ s % 2 = 1 → t.testBit s = true ∧ 2 ^ s ≤ t) ∧ (¬ t / 2 ^ s % 2 = 1 → t.testBit s = false) := by decide +kernel
def popT (t : Nat) (k : Nat) : Nat := sumR (fun i => t / 2 ^ i % 2) k
theorem popT_6 : ∀ t, t < 64 → popT t 6 = pop t := by decide +kernel
theorem popT_le (t k : Nat) : popT t k ≤ k := by
  have h := sumR_le (f := fun i => t / 2 ^ i % 2) (b := 1) (c := k) (fun j _ => by show t / 2 ^ j % 2 ≤ 1; omega)
  rw [Nat.mul_one] at h
  exact h
def rbT (F : List Nat) (C : Nat → Nat) (t : Nat) : Nat → Nat
  | 0 => 100000
  | s + 1 => min (rbT F C t s) (cond (t.testBit s) (C (t ^^^ 2 ^ s) + dst (F.getD (pop t - 1) 0) s) 100000)
theorem rbT_t {F : List Nat} {C : Nat → Nat} {t s : Nat} (h : t.testBit s = true) : rbT F C t (s + 1) = min (rbT F C t s) (C (t ^^^ 2 ^ s) + dst (F.getD (pop t - 1) 0) s) := by
  show min _ (cond (t.testBit s) _ _) = _
  rw [h]; rfl
theorem rbT_f {F : List Nat} {C : Nat → Nat} {t s : Nat} (h : t.testBit s = false) : rbT F C t (s + 1) = min (rbT F C t s) 100000 := by
  show min _ (cond (t.testBit s) _ _) = _
  rw [h]; rfl
theorem rbT_le (F : List Nat) (C : Nat → Nat) (t s : Nat) : rbT F C t s ≤ 100000 := by
  induction s with
  | zero => exact Nat.le_refl _
  | succ s ih =>
    show min _ _ ≤ _
    omega
theorem rb_bst {F : List Nat} {C : Nat → Nat} {t : Nat} (hC : ∀ s, t.testBit s = true → s < F.length → C (t ^^^ 2 ^ s) + dst (F.getD (pop t - 1) 0) s ≤ 100000) (m : Nat) (hm : m ≤ F.length) : rbT F C t m = min 100000 (bstT F C t m) := by
  induction m with
  | zero => show 100000 = min 100000 2147483647; decide
  | succ m ih =>
    have h := ih (by omega)
    cases hb : t.testBit m
    · rw [rbT_f hb, bstT_f hb, h]; omega
    · have h2 := hC m hb (by omega)
      rw [rbT_t hb, bstT_t hb, h]; omega
theorem rb_cst {F : List Nat} {t : Nat} (hF : F.length ≤ 6) (hm : ∀ y, y ∈ F → y < 100) (h1 : 1 ≤ t) (ht : t < 2 ^ F.length) : rbT F (cst F) t F.length = cst F t := by
  have hp := (pow_le F.length (by omega)).1
  have hpf := pop_facts F.length (by omega) t ht
  have h3 : F.getD (pop t - 1) 0 < 100 := hm _ (getD_mem (by have := hpf.2 h1; omega))
  rw [rb_bst (fun s hb hs => by
    have hl := bit_less t (by omega) s (by omega) hb
    have h2 := cst_le hF hm (t ^^^ 2 ^ s) (by omega)
    have h4 := dst_le (s := F.getD (pop t - 1) 0) (t := s) h3 (by omega)
    omega) F.length (Nat.le_refl _), ← cst_s h1 (by omega) hF]
  have := cst_le hF hm t ht
  omega
theorem upd_upd {f : Nat → Int32} {k : Nat} {x y : Int32} : upd (upd f k x) k y = upd f k y := funext fun j => by
  by_cases h : j = k
  · rw [h, upd_eq, upd_eq]
  · rw [upd_ne h, upd_ne h, upd_ne h]
theorem jn_sw4 (x : Int32) : (x.toInt = 0 ∧ x = nI 0) ∨ (x.toInt = 1 ∧ x = nI 1) ∨ (x.toInt = 2 ∧ x = nI 2) ∨ (x.toInt = 3 ∧ x = nI 3) ∨ (x.toInt = 4 ∧ x = nI 4) ∨ ((x.toInt < 0 ∨ 4 < x.toInt) ∧ ∀ k, k ≤ 4 → x ≠ nI k) := by
  by_cases h0 : x.toInt = 0
  · exact Or.inl ⟨h0, jn_of (by decide) h0⟩
  by_cases h1 : x.toInt = 1
  · exact Or.inr (Or.inl ⟨h1, jn_of (by decide) h1⟩)
  by_cases h2 : x.toInt = 2
  · exact Or.inr (Or.inr (Or.inl ⟨h2, jn_of (by decide) h2⟩))
  by_cases h3 : x.toInt = 3
  · exact Or.inr (Or.inr (Or.inr (Or.inl ⟨h3, jn_of (by decide) h3⟩)))
  by_cases h4 : x.toInt = 4
  · exact Or.inr (Or.inr (Or.inr (Or.inr (Or.inl ⟨h4, jn_of (by decide) h4⟩))))
  refine Or.inr (Or.inr (Or.inr (Or.inr (Or.inr ⟨by omega, fun k hk e => ?_⟩))))
  have := nI_toInt (n := k) (by omega)
  rw [← e] at this
  omega
