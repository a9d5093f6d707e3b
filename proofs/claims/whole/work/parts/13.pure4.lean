/-! the picture: where boxes lie (-1 is nowhere), how declarations stand, act after act -/
def freeB (sl : Nat → Int32) (x : Int32) : Bool := (List.range 20).all (fun i => !decide (sl i = x))
def bxP (sl : Nat → Int32) (x r : Int32) : Prop := (r = -1 ∧ ∀ i, i < 20 → ¬ sl i = x) ∨ ∃ b, b < 20 ∧ r = nI b ∧ sl b = x
theorem freeB_t {sl : Nat → Int32} {x : Int32} (h : ∀ i, i < 20 → ¬ sl i = x) : freeB sl x = true := by
  unfold freeB
  rw [List.all_eq_true]
  intro i hi
  rw [decide_eq_false (h i (List.mem_range.mp hi))]; rfl
theorem freeB_f {sl : Nat → Int32} {x : Int32} {b : Nat} (hb : b < 20) (h : sl b = x) : freeB sl x = false := by
  unfold freeB
  rw [List.all_eq_false]
  exact ⟨b, List.mem_range.mpr hb, by rw [decide_eq_true h]; exact Bool.false_ne_true⟩
theorem bxP_t {sl : Nat → Int32} {x r : Int32} (h : bxP sl x r) (hr : r = -1) : freeB sl x = true := by
  rcases h with h | ⟨b, hb, e, -⟩
  · exact freeB_t h.2
  · rw [e] at hr
    have h1 := nI_toInt (n := b) (by omega)
    rw [hr] at h1
    have h2 : ((-1 : Int32)).toInt = -1 := by decide
    omega
theorem bxP_f {sl : Nat → Int32} {x r : Int32} (h : bxP sl x r) (hr : ¬ r = -1) : freeB sl x = false := by
  rcases h with h | ⟨b, hb, e, hs⟩
  · exact absurd h.1 hr
  · exact freeB_f hb hs
def stS (X : AF) (e : Nat) (sl : Nat → Int32) : Nat → Int32 := if X 0 e = nI 0 then cond (freeB sl (X 2 e)) (upd sl (X 1 e).toNatClampNeg (X 2 e)) sl else if X 0 e = nI 1 then upd sl (X 1 e).toNatClampNeg (-1) else sl
def stT (X : AF) (e : Nat) (stt : Nat → Int32) : Nat → Int32 := if X 0 e = nI 2 then upd stt (X 1 e).toNatClampNeg (if stt (X 1 e).toNatClampNeg < X 2 e then X 2 e else stt (X 1 e).toNatClampNeg) else stt
def stM (X : AF) (e : Nat) (sm : Nat → Int32) : Nat → Int32 := if X 0 e = nI 3 then upd sm (X 1 e).toNatClampNeg (sm (X 1 e).toNatClampNeg + X 2 e) else sm
theorem stS_0t {X : AF} {e a : Nat} {sl : Nat → Int32} (h : X 0 e = nI 0) (ea : X 1 e = nI a) (ha : a < 20) (hf : freeB sl (X 2 e) = true) : stS X e sl = upd sl a (X 2 e) := by
  unfold stS; rw [if_pos h, hf, ea, nI_clamp (by omega)]; rfl
theorem stS_0f {X : AF} {e : Nat} {sl : Nat → Int32} (h : X 0 e = nI 0) (hf : freeB sl (X 2 e) = false) : stS X e sl = sl := by
  unfold stS; rw [if_pos h, hf]; rfl
theorem stS_1 {X : AF} {e a : Nat} {sl : Nat → Int32} (h : X 0 e = nI 1) (ea : X 1 e = nI a) (ha : a < 20) : stS X e sl = upd sl a (-1) := by
  unfold stS; rw [if_neg (by rw [h]; decide), if_pos h, ea, nI_clamp (by omega)]
theorem stS_n {X : AF} {e : Nat} {sl : Nat → Int32} (h : ¬ X 0 e = nI 0) (h1 : ¬ X 0 e = nI 1) : stS X e sl = sl := by
  unfold stS; rw [if_neg h, if_neg h1]
theorem stT_2 {X : AF} {e a : Nat} {stt : Nat → Int32} (h : X 0 e = nI 2) (ea : X 1 e = nI a) (ha : a < 10) : stT X e stt = upd stt a (if stt a < X 2 e then X 2 e else stt a) := by
  unfold stT; rw [if_pos h, ea, nI_clamp (by omega)]
theorem stT_n {X : AF} {e : Nat} {stt : Nat → Int32} (h : ¬ X 0 e = nI 2) : stT X e stt = stt := by
  unfold stT; rw [if_neg h]
theorem stM_3 {X : AF} {e a : Nat} {sm : Nat → Int32} (h : X 0 e = nI 3) (ea : X 1 e = nI a) (ha : a < 10) : stM X e sm = upd sm a (sm a + X 2 e) := by
  unfold stM; rw [if_pos h, ea, nI_clamp (by omega)]
theorem stM_n {X : AF} {e : Nat} {sm : Nat → Int32} (h : ¬ X 0 e = nI 3) : stM X e sm = sm := by
  unfold stM; rw [if_neg h]
theorem kne {x : Int32} {a b : Nat} (h : x = nI a) (ha : a < 10) (hb : b < 10) (hab : a ≠ b) : ¬ x = nI b := fun e => hab ((nI_eq (by omega) (by omega)).mp (h.symm.trans e))
theorem aok_0 {X : AF} {e : Nat} (h : aok1 X e) (hk : X 0 e = nI 0) : (∃ a, a < 20 ∧ X 1 e = nI a) ∧ ∃ b, b < 100 ∧ X 2 e = nI b := by
  rcases h.2 with h | h | h | h | h | h
  · exact h.2
  · exact absurd h.1 (kne hk (by decide) (by decide) (by decide))
  · exact absurd h.1 (kne hk (by decide) (by decide) (by decide))
  · exact absurd h.1 (kne hk (by decide) (by decide) (by decide))
  · exact absurd h.1 (kne hk (by decide) (by decide) (by decide))
  · exact absurd h.1 (kne hk (by decide) (by decide) (by decide))
theorem aok_1 {X : AF} {e : Nat} (h : aok1 X e) (hk : X 0 e = nI 1) : ∃ a, a < 20 ∧ X 1 e = nI a := by
  rcases h.2 with h | h | h | h | h | h
  · exact absurd h.1 (kne hk (by decide) (by decide) (by decide))
  · exact h.2
  · exact absurd h.1 (kne hk (by decide) (by decide) (by decide))
  · exact absurd h.1 (kne hk (by decide) (by decide) (by decide))
  · exact absurd h.1 (kne hk (by decide) (by decide) (by decide))
  · exact absurd h.1 (kne hk (by decide) (by decide) (by decide))
theorem aok_2 {X : AF} {e : Nat} (h : aok1 X e) (hk : X 0 e = nI 2) : ∃ a, a < 10 ∧ X 1 e = nI a := by
  rcases h.2 with h | h | h | h | h | h
  · exact absurd h.1 (kne hk (by decide) (by decide) (by decide))
  · exact absurd h.1 (kne hk (by decide) (by decide) (by decide))
  · exact h.2
  · exact absurd h.1 (kne hk (by decide) (by decide) (by decide))
  · exact absurd h.1 (kne hk (by decide) (by decide) (by decide))
  · exact absurd h.1 (kne hk (by decide) (by decide) (by decide))
theorem aok_3 {X : AF} {e : Nat} (h : aok1 X e) (hk : X 0 e = nI 3) : ∃ a, a < 10 ∧ X 1 e = nI a := by
  rcases h.2 with h | h | h | h | h | h
  · exact absurd h.1 (kne hk (by decide) (by decide) (by decide))
  · exact absurd h.1 (kne hk (by decide) (by decide) (by decide))
  · exact absurd h.1 (kne hk (by decide) (by decide) (by decide))
  · exact h.2
  · exact absurd h.1 (kne hk (by decide) (by decide) (by decide))
  · exact absurd h.1 (kne hk (by decide) (by decide) (by decide))
theorem aok_4 {X : AF} {e : Nat} (h : aok1 X e) (hk : X 0 e = nI 4) : (∃ a, a < 10 ∧ X 1 e = nI a) ∧ ∃ b, 1 ≤ b ∧ b ≤ 1000 ∧ X 2 e = nI b := by
  rcases h.2 with h | h | h | h | h | h
  · exact absurd h.1 (kne hk (by decide) (by decide) (by decide))
  · exact absurd h.1 (kne hk (by decide) (by decide) (by decide))
  · exact absurd h.1 (kne hk (by decide) (by decide) (by decide))
  · exact absurd h.1 (kne hk (by decide) (by decide) (by decide))
  · exact h.2
  · exact absurd h.1 (kne hk (by decide) (by decide) (by decide))
def slT (X : AF) (L : List Nat) : Nat → (Nat → Int32)
  | 0 => fun _ => -1
  | i + 1 => stS X (L.getD i 0) (slT X L i)
def ttT (X : AF) (L : List Nat) : Nat → (Nat → Int32)
  | 0 => fun _ => nI 0
  | i + 1 => stT X (L.getD i 0) (ttT X L i)
def smT (X : AF) (L : List Nat) : Nat → (Nat → Int32)
  | 0 => fun _ => nI 0
  | i + 1 => stM X (L.getD i 0) (smT X L i)
def slP (X : AF) (n : Nat) (t k : Int32) : Nat → Int32 := slT X (ordL X n t k) (ordL X n t k).length
def ttP (X : AF) (n : Nat) (t k : Int32) : Nat → Int32 := ttT X (ordL X n t k) (ordL X n t k).length
def smP (X : AF) (n : Nat) (t k : Int32) : Nat → Int32 := smT X (ordL X n t k) (ordL X n t k).length
def difS (sl sl2 : Nat → Int32) (b : Nat) : Bool := !decide (sl b = sl2 b)
def difD (tt tt2 sm sm2 : Nat → Int32) (d : Nat) : Bool := !(decide (tt d = tt2 d) && decide (sm d = sm2 d))
theorem cntB_t {p : Nat → Bool} {i : Nat} (h : p i = true) : cntB p (i + 1) = cntB p i + 1 := by
  show cntB p i + cond (p i) 1 0 = _
  rw [h]; rfl
theorem cntB_f {p : Nat → Bool} {i : Nat} (h : p i = false) : cntB p (i + 1) = cntB p i := by
  show cntB p i + cond (p i) 1 0 = _
  rw [h]; rfl
