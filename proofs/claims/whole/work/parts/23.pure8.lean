/-! the order by one number: VALID, KIND, number -/
def vN (X : AF) (e : Nat) : Nat := (X 3 e).toNatClampNeg
def kN (X : AF) (e : Nat) : Nat := (X 0 e).toNatClampNeg
def ky (X : AF) (e : Nat) : Nat := (vN X e * 8 + kN X e) * 128 + e
theorem vN_eq {X : AF} {e : Nat} (h : aok1 X e) : X 3 e = nI (vN X e) ∧ vN X e ≤ 10000 := by
  obtain ⟨v, hv, e1⟩ := h.1
  unfold vN
  rw [e1, nI_clamp (by omega)]
  exact ⟨rfl, hv⟩
theorem kN_eq {X : AF} {e : Nat} (h : aok1 X e) : X 0 e = nI (kN X e) ∧ kN X e ≤ 5 := by
  have g : ∃ k, k ≤ 5 ∧ X 0 e = nI k := by
    rcases h.2 with h | h | h | h | h | h
    · exact ⟨0, by decide, h.1⟩
    · exact ⟨1, by decide, h.1⟩
    · exact ⟨2, by decide, h.1⟩
    · exact ⟨3, by decide, h.1⟩
    · exact ⟨4, by decide, h.1⟩
    · exact ⟨5, by decide, h.1⟩
  obtain ⟨k, hk, e1⟩ := g
  unfold kN
  rw [e1, nI_clamp (by omega)]
  exact ⟨rfl, hk⟩
theorem ky_lt {X : AF} {n e : Nat} (hA : aok X n) (he : e < n) : ky X e < 20000000 := by
  have h1 := vN_eq (hA.2 e he)
  have h2 := kN_eq (hA.2 e he)
  have h80 := hA.1
  unfold ky
  omega
theorem ky_inj {X : AF} {n a b : Nat} (hA : aok X n) (ha : a < n) (hb : b < n) (h : ky X a = ky X b) : a = b := by
  have h80 := hA.1
  unfold ky at h
  omega
theorem ah_ky {X : AF} {n x y : Nat} (hA : aok X n) (hx : x < n) (hy : y < x) : (ahB X x y = true → ky X x < ky X y) ∧ (ahB X x y = false → ky X y < ky X x) := by
  have hx1 := hA.2 x hx
  have hy1 := hA.2 y (by omega)
  obtain ⟨v1, v2⟩ := vN_eq hx1
  obtain ⟨w1, w2⟩ := vN_eq hy1
  obtain ⟨k1, k2⟩ := kN_eq hx1
  obtain ⟨l1, l2⟩ := kN_eq hy1
  have h80 := hA.1
  unfold ahB ky
  rw [v1, w1, k1, l1]
  by_cases h : nI (vN X x) = nI (vN X y)
  · rw [if_pos h]
    have h' := (nI_eq (by omega) (by omega)).mp h
    constructor
    · intro q
      have := (nI_ltI (by omega) (by omega)).mp (of_decide_eq_true q)
      omega
    · intro q
      have := of_decide_eq_false q
      rw [nI_ltI (by omega) (by omega)] at this
      omega
  · rw [if_neg h]
    have h' : ¬ vN X x = vN X y := fun g => h (by rw [g])
    constructor
    · intro q
      have := (nI_ltI (by omega) (by omega)).mp (of_decide_eq_true q)
      omega
    · intro q
      have := of_decide_eq_false q
      rw [nI_ltI (by omega) (by omega)] at this
      omega
def srt (X : AF) (L : List Nat) : Prop := ∀ i j, i < j → j < L.length → ky X (L.getD i 0) < ky X (L.getD j 0)
theorem insPos_hi {X : AF} {L : List Nat} {x : Nat} (k : Nat) : ∀ i, insPos X L x k ≤ i → i < k → ahB X x (L.getD i 0) = true := by
  induction k with
  | zero => intro i _ h; exact absurd h (Nat.not_lt_zero _)
  | succ k ih =>
    intro i h1 h2
    cases hb : ahB X x (L.getD k 0)
    · rw [insPos_stop (k := k + 1) (by omega) (by rw [Nat.add_sub_cancel]; exact hb)] at h1
      omega
    · rw [insPos_go (k := k + 1) (by omega) (by rw [Nat.add_sub_cancel]; exact hb), Nat.add_sub_cancel] at h1
      by_cases e : i = k
      · rw [e]; exact hb
      · exact ih i h1 (by omega)
theorem insPos_lo {X : AF} {L : List Nat} {x : Nat} (k : Nat) : 0 < insPos X L x k → ahB X x (L.getD (insPos X L x k - 1) 0) = false := by
  induction k with
  | zero => intro h; exact absurd h (Nat.not_lt_zero _)
  | succ k ih =>
    cases hb : ahB X x (L.getD k 0)
    · intro _
      rw [insPos_stop (k := k + 1) (by omega) (by rw [Nat.add_sub_cancel]; exact hb), Nat.add_sub_cancel]
      exact hb
    · rw [insPos_go (k := k + 1) (by omega) (by rw [Nat.add_sub_cancel]; exact hb), Nat.add_sub_cancel]
      exact ih
theorem ins_srt {X : AF} {n x : Nat} {L : List Nat} (hA : aok X n) (hx : x < n) (hL : srt X L) (hm : ∀ i, i < L.length → L.getD i 0 < x) : srt X (ins X L x) := by
  have hs := insPos_le X L x L.length
  have hhi := insPos_hi (X := X) (L := L) (x := x) L.length
  have hlo := insPos_lo (X := X) (L := L) (x := x) L.length
  intro i j hij hj
  rw [ins_len] at hj
  unfold ins
  generalize hsp : insPos X L x L.length = sp at hs hhi hlo ⊢
  rw [spl_getD L sp x i hs, spl_getD L sp x j hs]
  have above : ∀ q, sp ≤ q → q < L.length → ky X x < ky X (L.getD q 0) := fun q h1 h2 => (ah_ky hA hx (hm q h2)).1 (hhi q h1 h2)
  have below : ∀ q, q < sp → ky X (L.getD q 0) < ky X x := by
    intro q h1
    have h2 := (ah_ky hA hx (hm (sp - 1) (by omega))).2 (hlo (by omega))
    by_cases e : q = sp - 1
    · rw [e]; exact h2
    · exact Nat.lt_trans (hL q (sp - 1) (by omega) (by omega)) h2
  by_cases hi : i < sp
  · rw [if_pos hi]
    by_cases hj1 : j < sp
    · rw [if_pos hj1]; exact hL i j hij (by omega)
    · rw [if_neg hj1]
      by_cases hj2 : j = sp
      · rw [if_pos hj2]; exact below i hi
      · rw [if_neg hj2]; exact hL i (j - 1) (by omega) (by omega)
  · rw [if_neg hi, if_neg (show ¬ j < sp by omega), if_neg (show ¬ j = sp by omega)]
    by_cases hi2 : i = sp
    · rw [if_pos hi2]; exact above (j - 1) (by omega) (by omega)
    · rw [if_neg hi2]; exact hL (i - 1) (j - 1) (by omega) (by omega)
theorem ordTo_srt {X : AF} {n : Nat} {t k : Int32} (hA : aok X n) (i : Nat) (hi : i ≤ n) : srt X (ordTo X n t k i) := by
  induction i with
  | zero => intro a b _ hb; exact absurd hb (Nat.not_lt_zero _)
  | succ i ih =>
    cases h : hdB X n t k i
    · rw [ordTo_f h]; exact ih (by omega)
    · rw [ordTo_t h]; exact ins_srt hA (by omega) (ih (by omega)) (fun j hj => ordTo_lt hj)
theorem ordL_srt {X : AF} {n : Nat} (t k : Int32) (hA : aok X n) : srt X (ordL X n t k) := ordTo_srt hA n (Nat.le_refl _)
theorem ordL_hd {X : AF} {n : Nat} {t k : Int32} {i : Nat} (h : i < (ordL X n t k).length) : hdB X n t k ((ordL X n t k).getD i 0) = true := (ordTo_mem.mp (getD_mem h)).2
theorem ordL_ix {X : AF} {n : Nat} {t k : Int32} {e : Nat} (he : e < n) (h : hdB X n t k e = true) : ∃ i, i < (ordL X n t k).length ∧ (ordL X n t k).getD i 0 = e := by
  obtain ⟨i, hi, e1⟩ := List.mem_iff_getElem.mp (ordTo_mem.mpr ⟨he, h⟩ : e ∈ ordL X n t k)
  refine ⟨i, hi, ?_⟩
  show (ordTo X n t k n).getD i 0 = e
  rw [List.getD_eq_getElem?_getD, List.getElem?_eq_getElem hi]
  exact e1
/-! the reference's search for the next act -/
def oI (o : Option Nat) : Int32 := match o with
  | none => -1
  | some e => nI e
def nxC (X : AF) (n : Nat) (t k bh : Int32) (e : Nat) : Bool := hdB X n t k e && decide (bh < nI (ky X e))
def nxT (X : AF) (n : Nat) (t k bh : Int32) : Nat → Option Nat
  | 0 => none
  | i + 1 => match nxT X n t k bh i with
    | none => if nxC X n t k bh i = true then some i else none
    | some f => if nxC X n t k bh i = true ∧ ky X i < ky X f then some i else some f
theorem nxT_n {X : AF} {n : Nat} {t k bh : Int32} {i : Nat} (h : nxT X n t k bh i = none) : nxT X n t k bh (i + 1) = if nxC X n t k bh i = true then some i else none := by
  show (match nxT X n t k bh i with | none => _ | some f => _) = _
  rw [h]
theorem nxT_s {X : AF} {n : Nat} {t k bh : Int32} {i f : Nat} (h : nxT X n t k bh i = some f) : nxT X n t k bh (i + 1) = if nxC X n t k bh i = true ∧ ky X i < ky X f then some i else some f := by
  show (match nxT X n t k bh i with | none => _ | some f => _) = _
  rw [h]
theorem nxT_spec (X : AF) (n : Nat) (t k bh : Int32) (i : Nat) : (nxT X n t k bh i = none ∧ ∀ e, e < i → nxC X n t k bh e = false) ∨ ∃ f, nxT X n t k bh i = some f ∧ f < i ∧ nxC X n t k bh f = true ∧ ∀ e, e < i → nxC X n t k bh e = true → ky X f ≤ ky X e := by
  induction i with
  | zero => exact Or.inl ⟨rfl, fun e h => absurd h (Nat.not_lt_zero _)⟩
  | succ i ih =>
    rcases ih with ⟨h, h2⟩ | ⟨f, h, h1, h2, h3⟩
    · cases hc : nxC X n t k bh i
      · refine Or.inl ⟨by rw [nxT_n h, hc]; rfl, fun e he => ?_⟩
        by_cases e1 : e = i
        · rw [e1]; exact hc
        · exact h2 e (by omega)
      · refine Or.inr ⟨i, by rw [nxT_n h, if_pos hc], by omega, hc, fun e he hce => ?_⟩
        by_cases e1 : e = i
        · rw [e1]; exact Nat.le_refl _
        · rw [h2 e (by omega)] at hce; exact absurd hce Bool.false_ne_true
    · by_cases hc : nxC X n t k bh i = true ∧ ky X i < ky X f
      · refine Or.inr ⟨i, by rw [nxT_s h, if_pos hc], by omega, hc.1, fun e he hce => ?_⟩
        by_cases e1 : e = i
        · rw [e1]; exact Nat.le_refl _
        · have := h3 e (by omega) hce
          omega
      · refine Or.inr ⟨f, by rw [nxT_s h, if_neg hc], by omega, h2, fun e he hce => ?_⟩
        by_cases e1 : e = i
        · subst e1
          rcases Nat.lt_or_ge (ky X e) (ky X f) with q | q
          · exact absurd ⟨hce, q⟩ hc
          · exact q
        · exact h3 e (by omega) hce
/-- from behind the first j acts of the order the next is act j of it -/
theorem nxt_ord {X : AF} {n : Nat} {t k bh : Int32} (hA : aok X n) (j : Nat) (hj : j ≤ (ordL X n t k).length) (hb : ∀ e, e < n → hdB X n t k e = true → (bh < nI (ky X e) ↔ ∀ i, i < j → ky X ((ordL X n t k).getD i 0) < ky X e)) :
    nxT X n t k bh n = if j < (ordL X n t k).length then some ((ordL X n t k).getD j 0) else none := by
  have hs := ordL_srt t k hA
  rcases nxT_spec X n t k bh n with ⟨h, h2⟩ | ⟨f, h, h1, h2, h3⟩
  · by_cases hl : j < (ordL X n t k).length
    · have he := ordL_lt j hl
      have hd := ordL_hd hl
      have hc : nxC X n t k bh ((ordL X n t k).getD j 0) = true := by
        unfold nxC
        rw [hd, decide_eq_true ((hb _ he hd).mpr (fun i hi => hs i j hi hl))]; rfl
      rw [h2 _ he] at hc
      exact absurd hc Bool.false_ne_true
    · rw [if_neg hl]; exact h
  · unfold nxC at h2
    rw [Bool.and_eq_true] at h2
    obtain ⟨i, hi, e1⟩ := ordL_ix h1 h2.1
    have hall := (hb f h1 h2.1).mp (of_decide_eq_true h2.2)
    have hji : j ≤ i := by
      rcases Nat.lt_or_ge i j with q | q
      · have := hall i q
        rw [e1] at this
        exact absurd this (Nat.lt_irrefl _)
      · exact q
    have hl : j < (ordL X n t k).length := by omega
    rw [if_pos hl, h]
    by_cases e2 : i = j
    · rw [← e2, e1]
    · have he := ordL_lt j hl
      have hd := ordL_hd hl
      have hc : nxC X n t k bh ((ordL X n t k).getD j 0) = true := by
        unfold nxC
        rw [hd, decide_eq_true ((hb _ he hd).mpr (fun i hi => hs i j hi hl))]; rfl
      have h4 := h3 _ he hc
      have h5 := hs j i (by omega) hi
      rw [e1] at h5
      omega
theorem nxt_0 {X : AF} {n : Nat} (t k : Int32) (hA : aok X n) : nxT X n t k (-1) n = if 0 < (ordL X n t k).length then some ((ordL X n t k).getD 0 0) else none :=
  nxt_ord hA 0 (Nat.zero_le _) (fun e he _ => ⟨fun _ i hi => absurd hi (Nat.not_lt_zero _), fun _ => by
    have h := ky_lt hA he
    rw [jn_lt, nI_toInt (by omega)]
    have h2 : ((-1 : Int32)).toInt = -1 := by decide
    omega⟩)
theorem nxt_s {X : AF} {n : Nat} (t k : Int32) (hA : aok X n) {j : Nat} (hj : j < (ordL X n t k).length) : nxT X n t k (nI (ky X ((ordL X n t k).getD j 0))) n = if j + 1 < (ordL X n t k).length then some ((ordL X n t k).getD (j + 1) 0) else none :=
  nxt_ord hA (j + 1) hj (fun e he hd => by
    have h := ky_lt hA he
    have h2 := ky_lt hA (ordL_lt j hj)
    rw [nI_ltI (by omega) (by omega)]
    refine ⟨fun q i hi => ?_, fun q => q j (by omega)⟩
    by_cases e1 : i = j
    · rw [e1]; exact q
    · exact Nat.lt_trans (ordL_srt t k hA i j (by omega) hj) q)
theorem vdB_s (X : AF) (i e : Nat) (k : Int32) : vdB X (i + 1) e k = (vdB X i e k || vdc X e k i) := by
  unfold vdB
  rw [List.range_succ, List.any_append]
  simp
theorem bxP_nn {sl : Nat → Int32} {x r : Int32} (h : bxP sl x r) (hr : nI 0 ≤ r) : freeB sl x = false := bxP_f h (fun e => by
  rw [e] at hr
  exact absurd hr (by decide))
theorem bxP_ng {sl : Nat → Int32} {x r : Int32} (h : bxP sl x r) (hr : ¬ nI 0 ≤ r) : freeB sl x = true := by
  rcases h with h | ⟨b, hb, e, -⟩
  · exact freeB_t h.2
  · exact absurd (by rw [e]; exact nI_le (Nat.zero_le b) (by omega)) hr
