section JZ
variable {p : Program} {l : Launch} {e : Env} {R : Room} {s : State} {m : MethodId} {args : Array Value} {below : List Frame} {meth : Method} {c : Code} {Q : State → Prop} {D : va_G} {cl : List vw_C} {A : Nat → Prop} {H0 : Heap} {nL cells slots : Nat}
variable {ws : va_W} {lv : List (Nat × Value)} {pc : Nat} {st : List Value} {cc : ByteArray} {Ts : List Cond} {own : String}
theorem j_ldcw (F : CallFix p m c cc nL s args Ts own) {index : Nat} {v : Int32} (hc : Jvm.Cond.constant own index v ∈ Ts) (d : decode cc pc = .ok (.ldc_w index, 3)) (k : J p l e R s m args below meth c D cl A H0 nL cells slots Q ws lv (pc + 3) (.int v :: st)) : J p l e R s m args below meth c D cl A H0 nL cells slots Q ws lv pc st := fun H locs ls hP hD hS h => lv_ldcw F.1 F.2.1 F.2.2.2.1 (F.2.2.2.2 _ hc) d (k H locs ls hP hD hS h)
theorem j_iushr (F : CallFix p m c cc nL s args Ts own) {x y v : Int32} (d : decode cc pc = .ok (.iushr, 1)) (hv : (x.toUInt32 >>> (y.toUInt32 &&& Int32.toUInt32 31)).toInt32 = v) (k : J p l e R s m args below meth c D cl A H0 nL cells slots Q ws lv (pc + 1) (.int v :: st)) : J p l e R s m args below meth c D cl A H0 nL cells slots Q ws lv pc (.int y :: .int x :: st) := fun H locs ls hP hD hS h => lv_iushr F.1 F.2.1 d hv (k H locs ls hP hD hS h)
theorem j_ishr (F : CallFix p m c cc nL s args Ts own) {x y v : Int32} (d : decode cc pc = .ok (.ishr, 1)) (hv : x >>> (y &&& 31) = v) (k : J p l e R s m args below meth c D cl A H0 nL cells slots Q ws lv (pc + 1) (.int v :: st)) : J p l e R s m args below meth c D cl A H0 nL cells slots Q ws lv pc (.int y :: .int x :: st) := fun H locs ls hP hD hS h => lv_ishr F.1 F.2.1 d (hv ▸ k H locs ls hP hD hS h)
end JZ
/-! distances and the least way -/
def adf (a b : Nat) : Nat := (a - b) + (b - a)
theorem jn_abs {a b : Nat} (ha : a < 1000) (hb : b < 1000) : (if 0 ≤ nI a - nI b then nI a - nI b else 0 - (nI a - nI b)) = nI (adf a b) := by
  unfold adf
  by_cases h : b ≤ a
  · rw [pk_sub h, if_pos (nI_pos' (by omega)), show b - a = 0 by omega, Nat.add_zero]
  · rw [if_neg (fun g => jn_no (pk_sneg (a := a) (b := b) (by omega) (by omega)) g), Int32.zero_sub, Int32.neg_sub, pk_sub (by omega), show a - b = 0 by omega, Nat.zero_add]
def dst (s t : Nat) : Nat := adf (s / 10) (t / 10) + adf (s % 10) (t % 10)
theorem dst_le {s t : Nat} (hs : s < 100) (ht : t < 100) : dst s t ≤ 18 := by
  unfold dst adf
  omega
def pop (t : Nat) : Nat := t % 2 + t / 2 % 2 + t / 4 % 2 + t / 8 % 2 + t / 16 % 2 + t / 32 % 2
theorem pop_facts : ∀ m, m < 7 → ∀ t, t < 2 ^ m → pop t ≤ m ∧ (1 ≤ t → 1 ≤ pop t) := by decide +kernel
theorem bit_shl : ∀ s, s < 7 → (nI 1 <<< (nI s &&& 31)) = nI (2 ^ s) := by decide +kernel
theorem bit_and : ∀ t, t < 64 → ∀ s, s < 6 → (nI t &&& nI (2 ^ s)) = nI (t &&& 2 ^ s) := by decide +kernel
theorem bit_xor : ∀ t, t < 64 → ∀ s, s < 6 → (nI t ^^^ nI (2 ^ s)) = nI (t ^^^ 2 ^ s) := by decide +kernel
theorem bit_test : ∀ t, t < 64 → ∀ s, s < 6 → (t &&& 2 ^ s < 64) ∧ (t &&& 2 ^ s = 0 → t.testBit s = false) ∧ (¬ t &&& 2 ^ s = 0 → t.testBit s = true) := by decide +kernel
theorem bit_less : ∀ t, t < 64 → ∀ s, s < 6 → t.testBit s = true → t ^^^ 2 ^ s < t ∧ t ^^^ 2 ^ s = t - 2 ^ s := by decide +kernel
theorem bit_some : ∀ m, m < 7 → ∀ t, t < 2 ^ m → 1 ≤ t → ∃ s, s < m ∧ t.testBit s = true := by decide +kernel
theorem pow_le : ∀ m, m < 7 → 2 ^ m ≤ 64 ∧ 1 ≤ 2 ^ m := by decide
/-- the slots where boxes lie, by the boxes' numbers -/
def sN (sl : Nat → Int32) (b : Nat) : Nat := (sl b).toNatClampNeg
def lyT (sl : Nat → Int32) : Nat → List Nat
  | 0 => []
  | b + 1 => if sl b = -1 then lyT sl b else lyT sl b ++ [sN sl b]
theorem lyT_f {sl : Nat → Int32} {b : Nat} (h : sl b = -1) : lyT sl (b + 1) = lyT sl b := by
  show (if sl b = -1 then _ else _) = _
  rw [if_pos h]
theorem lyT_t {sl : Nat → Int32} {b : Nat} (h : ¬ sl b = -1) : lyT sl (b + 1) = lyT sl b ++ [sN sl b] := by
  show (if sl b = -1 then _ else _) = _
  rw [if_neg h]
theorem lyT_mono (sl : Nat → Int32) (a d : Nat) : (lyT sl a).length ≤ (lyT sl (a + d)).length := by
  induction d with
  | zero => exact Nat.le_refl _
  | succ d ih =>
    by_cases h : sl (a + d) = -1
    · rw [← Nat.add_assoc, lyT_f h]; exact ih
    · rw [← Nat.add_assoc, lyT_t h, List.length_append]; omega
/-- boxes lie at slots 0 .. 99, or nowhere -/
def slOk (sl : Nat → Int32) : Prop := ∀ b, b < 20 → sl b = -1 ∨ ∃ s, s < 100 ∧ sl b = nI s
theorem sN_eq {sl : Nat → Int32} (h : slOk sl) {b : Nat} (hb : b < 20) (hn : ¬ sl b = -1) : sl b = nI (sN sl b) ∧ sN sl b < 100 := by
  rcases h b hb with e | ⟨s, hs, e⟩
  · exact absurd e hn
  · unfold sN
    rw [e, nI_clamp (by omega)]
    exact ⟨rfl, hs⟩
theorem lyT_lt {sl : Nat → Int32} (h : slOk sl) {b : Nat} (hb : b ≤ 20) : ∀ y, y ∈ lyT sl b → y < 100 := by
  induction b with
  | zero => intro y hy; exact absurd hy List.not_mem_nil
  | succ b ih =>
    intro y hy
    by_cases e : sl b = -1
    · rw [lyT_f e] at hy; exact ih (by omega) y hy
    · rw [lyT_t e] at hy
      rcases List.mem_append.mp hy with hy | hy
      · exact ih (by omega) y hy
      · rw [List.mem_singleton.mp hy]; exact (sN_eq h (by omega) e).2
/-- the least over the slots below s that are in t -/
def bstT (F : List Nat) (C : Nat → Nat) (t : Nat) : Nat → Nat
  | 0 => 2147483647
  | s + 1 => cond (t.testBit s) (min (bstT F C t s) (C (t ^^^ 2 ^ s) + dst (F.getD (pop t - 1) 0) s)) (bstT F C t s)
theorem bstT_t {F : List Nat} {C : Nat → Nat} {t s : Nat} (h : t.testBit s = true) : bstT F C t (s + 1) = min (bstT F C t s) (C (t ^^^ 2 ^ s) + dst (F.getD (pop t - 1) 0) s) := by
  show cond (t.testBit s) _ _ = _
  rw [h]; rfl
theorem bstT_f {F : List Nat} {C : Nat → Nat} {t s : Nat} (h : t.testBit s = false) : bstT F C t (s + 1) = bstT F C t s := by
  show cond (t.testBit s) _ _ = _
  rw [h]; rfl
theorem bstT_le (F : List Nat) (C : Nat → Nat) (t s : Nat) : bstT F C t s ≤ 2147483647 := by
  induction s with
  | zero => exact Nat.le_refl _
  | succ s ih =>
    cases h : t.testBit s
    · rw [bstT_f h]; exact ih
    · rw [bstT_t h]; omega
theorem bstT_bit {F : List Nat} {C : Nat → Nat} {t s m : Nat} (h : t.testBit s = true) (hs : s < m) : bstT F C t m ≤ C (t ^^^ 2 ^ s) + dst (F.getD (pop t - 1) 0) s := by
  induction m with
  | zero => exact absurd hs (Nat.not_lt_zero _)
  | succ m ih =>
    by_cases e : s = m
    · subst e; rw [bstT_t h]; omega
    · have h1 := ih (by omega)
      cases h2 : t.testBit m
      · rw [bstT_f h2]; exact h1
      · rw [bstT_t h2]; omega
theorem bstT_congr {F : List Nat} {C C' : Nat → Nat} {t m : Nat} (hm : m ≤ 6) (ht : t < 64) (h : ∀ j, j < t → C j = C' j) : bstT F C t m = bstT F C' t m := by
  induction m with
  | zero => rfl
  | succ m ih =>
    have h1 := ih (by omega)
    cases h2 : t.testBit m
    · rw [bstT_f h2, bstT_f h2]; exact h1
    · rw [bstT_t h2, bstT_t h2, h1, h _ (bit_less t ht m (by omega) h2).1]
/-- the table, set by set -/
def ctb (F : List Nat) : Nat → Nat → Nat
  | 0 => fun _ => 0
  | k + 1 => fun j => if j = k then (if k = 0 then 0 else bstT F (ctb F k) k F.length) else ctb F k j
def cst (F : List Nat) (j : Nat) : Nat := ctb F (j + 1) j
theorem ctb_old {F : List Nat} {j k : Nat} (h : j < k) : ctb F k j = cst F j := by
  induction k with
  | zero => exact absurd h (Nat.not_lt_zero _)
  | succ k ih =>
    by_cases e : j = k
    · rw [e]; rfl
    · show (if j = k then _ else ctb F k j) = _
      rw [if_neg e]; exact ih (by omega)
theorem cst_0 (F : List Nat) : cst F 0 = 0 := rfl
theorem cst_s {F : List Nat} {k : Nat} (hk : 1 ≤ k) (hk2 : k < 64) (hF : F.length ≤ 6) : cst F k = bstT F (cst F) k F.length := by
  show (if k = k then (if k = 0 then 0 else bstT F (ctb F k) k F.length) else ctb F k k) = _
  rw [if_pos rfl, if_neg (by omega)]
  exact bstT_congr hF hk2 (fun j hj => ctb_old hj)
theorem cst_le {F : List Nat} (hF : F.length ≤ 6) (hm : ∀ y, y ∈ F → y < 100) (k : Nat) : k < 2 ^ F.length → cst F k ≤ 18 * k := by
  induction k using Nat.strongRecOn with
  | ind k ih =>
    intro hk
    have hp := (pow_le F.length (by omega)).1
    by_cases h0 : k = 0
    · subst h0; exact Nat.le_refl _
    · obtain ⟨s, hs, hb⟩ := bit_some F.length (by omega) k hk (by omega)
      have hl := bit_less k (by omega) s (by omega) hb
      rw [cst_s (by omega) (by omega) hF]
      have h1 := bstT_bit (F := F) (C := cst F) hb hs
      have h2 := ih _ hl.1 (by omega)
      have hpf := pop_facts F.length (by omega) k hk
      have h3 : F.getD (pop k - 1) 0 < 100 := hm _ (getD_mem (by have := hpf.2 (by omega); omega))
      have h4 := dst_le (s := F.getD (pop k - 1) 0) (t := s) h3 (by omega)
      omega
/-- the least so far as the class holds it: -1 where there is none -/
def bsV (F : List Nat) (C : Nat → Nat) (t s : Nat) : Int32 := if bstT F C t s = 2147483647 then -1 else nI (bstT F C t s)
theorem bsV_0 (F : List Nat) (C : Nat → Nat) (t : Nat) : bsV F C t 0 = -1 := by
  unfold bsV
  exact if_pos rfl
theorem bsV_f {F : List Nat} {C : Nat → Nat} {t s : Nat} (h : t.testBit s = false) : bsV F C t (s + 1) = bsV F C t s := by
  unfold bsV
  rw [bstT_f h]
theorem bsV_n {F : List Nat} {C : Nat → Nat} {t s : Nat} (h : ¬ bsV F C t s = -1) : bsV F C t s = nI (bstT F C t s) := by
  unfold bsV at h ⊢
  by_cases e : bstT F C t s = 2147483647
  · rw [if_pos e] at h; exact absurd rfl h
  · rw [if_neg e]
theorem bsV_max {F : List Nat} {C : Nat → Nat} {t s : Nat} (h : bsV F C t s = -1) : bstT F C t s = 2147483647 := by
  by_cases e : bstT F C t s = 2147483647
  · exact e
  · unfold bsV at h
    rw [if_neg e] at h
    have hl := bstT_le F C t s
    have h1 := nI_toInt (n := bstT F C t s) (by omega)
    rw [h] at h1
    have h2 : ((-1 : Int32)).toInt = -1 := by decide
    omega
theorem bsV_1 {F : List Nat} {C : Nat → Nat} {t s : Nat} (hb : t.testBit s = true) (h : bsV F C t s = -1) (hc : C (t ^^^ 2 ^ s) + dst (F.getD (pop t - 1) 0) s < 2147483647) : nI (C (t ^^^ 2 ^ s) + dst (F.getD (pop t - 1) 0) s) = bsV F C t (s + 1) := by
  have hm := bsV_max h
  have he : bstT F C t (s + 1) = C (t ^^^ 2 ^ s) + dst (F.getD (pop t - 1) 0) s := by
    rw [bstT_t hb, hm]
    exact Nat.min_eq_right (Nat.le_of_lt hc)
  unfold bsV
  rw [he, if_neg (Nat.ne_of_lt hc)]
theorem bsV_2 {F : List Nat} {C : Nat → Nat} {t s : Nat} (hb : t.testBit s = true) (hc : C (t ^^^ 2 ^ s) + dst (F.getD (pop t - 1) 0) s < 2147483647) : bsV F C t (s + 1) = nI (min (bstT F C t s) (C (t ^^^ 2 ^ s) + dst (F.getD (pop t - 1) 0) s)) := by
  unfold bsV
  rw [bstT_t hb, if_neg (Nat.ne_of_lt (Nat.lt_of_le_of_lt (Nat.min_le_right _ _) hc))]
theorem bsV_end {F : List Nat} {t : Nat} (hF : F.length ≤ 6) (hm : ∀ y, y ∈ F → y < 100) (h1 : 1 ≤ t) (ht : t < 2 ^ F.length) : bsV F (cst F) t F.length = nI (cst F t) := by
  have hp := (pow_le F.length (by omega)).1
  have he := cst_s (F := F) h1 (by omega) hF
  have hl := cst_le hF hm t ht
  unfold bsV
  rw [← he, if_neg (by omega)]
def lstP (sl : Nat → Int32) : Int32 := if (lyT sl 20).length ≤ 6 then nI (cst (lyT sl 20) (2 ^ (lyT sl 20).length - 1)) else -1
