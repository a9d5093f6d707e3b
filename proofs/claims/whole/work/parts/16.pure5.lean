/-! the quota, as the class serves it -/
def aN (X : AF) (e : Nat) : Nat := (X 1 e).toNatClampNeg
def bN (X : AF) (e : Nat) : Nat := (X 2 e).toNatClampNeg
def isAsk (X : AF) (e : Nat) : Prop := X 0 e = nI 4
theorem aN_eq {X : AF} {e : Nat} (h : aok1 X e) (hk : X 0 e = nI 4) : X 1 e = nI (aN X e) ∧ aN X e < 10 := by
  obtain ⟨⟨a, ha, e1⟩, -⟩ := aok_4 h hk
  unfold aN
  rw [e1, nI_clamp (by omega)]
  exact ⟨rfl, ha⟩
theorem bN_eq {X : AF} {e : Nat} (h : aok1 X e) (hk : X 0 e = nI 4) : X 2 e = nI (bN X e) ∧ 1 ≤ bN X e ∧ bN X e ≤ 1000 := by
  obtain ⟨-, b, hb, hb2, e1⟩ := aok_4 h hk
  unfold bN
  rw [e1, nI_clamp (by omega)]
  exact ⟨rfl, hb, hb2⟩
def sumR (f : Nat → Nat) : Nat → Nat
  | 0 => 0
  | c + 1 => sumR f c + f c
theorem sumR_le {f : Nat → Nat} {b c : Nat} (h : ∀ j, j < c → f j ≤ b) : sumR f c ≤ c * b := by
  induction c with
  | zero => exact Nat.zero_le _
  | succ c ih =>
    have h1 := ih (fun j hj => h j (by omega))
    have h2 := h c (by omega)
    show sumR f c + f c ≤ (c + 1) * b
    rw [Nat.succ_mul]
    omega
theorem sumR_congr {f g : Nat → Nat} {c : Nat} (h : ∀ j, j < c → f j = g j) : sumR f c = sumR g c := by
  induction c with
  | zero => rfl
  | succ c ih =>
    show sumR f c + f c = sumR g c + g c
    rw [ih (fun j hj => h j (by omega)), h c (by omega)]
/-- the asks of an order -/
def akT (X : AF) (L : List Nat) : Nat → List Nat
  | 0 => []
  | i + 1 => cond (decide (X 0 (L.getD i 0) = nI 4)) (akT X L i ++ [L.getD i 0]) (akT X L i)
def asksL (X : AF) (L : List Nat) : List Nat := akT X L L.length
theorem akT_t {X : AF} {L : List Nat} {i : Nat} (h : X 0 (L.getD i 0) = nI 4) : akT X L (i + 1) = akT X L i ++ [L.getD i 0] := by
  show cond (decide (X 0 (L.getD i 0) = nI 4)) _ _ = _
  rw [decide_eq_true h]; rfl
theorem akT_f {X : AF} {L : List Nat} {i : Nat} (h : ¬ X 0 (L.getD i 0) = nI 4) : akT X L (i + 1) = akT X L i := by
  show cond (decide (X 0 (L.getD i 0) = nI 4)) _ _ = _
  rw [decide_eq_false h]; rfl
theorem akT_len (X : AF) (L : List Nat) (i : Nat) : (akT X L i).length ≤ i := by
  induction i with
  | zero => exact Nat.le_refl _
  | succ i ih =>
    by_cases h : X 0 (L.getD i 0) = nI 4
    · rw [akT_t h, List.length_append]; simp; omega
    · rw [akT_f h]; omega
theorem akT_mem {X : AF} {L : List Nat} {i y : Nat} (hi : i ≤ L.length) (h : y ∈ akT X L i) : y ∈ L ∧ X 0 y = nI 4 := by
  induction i with
  | zero => exact absurd h List.not_mem_nil
  | succ i ih =>
    by_cases h4 : X 0 (L.getD i 0) = nI 4
    · rw [akT_t h4] at h
      rcases List.mem_append.mp h with h | h
      · exact ih (by omega) h
      · rw [List.mem_singleton.mp h]
        exact ⟨getD_mem (by omega), h4⟩
    · rw [akT_f h4] at h
      exact ih (by omega) h
theorem rowL_push {f : Nat → Int32} {L : List Nat} {x : Nat} (h : rowL f L) : rowL (upd f L.length (nI x)) (L ++ [x]) := by
  intro i hi
  rw [List.length_append] at hi
  have hi : i < L.length + 1 := hi
  by_cases e : i = L.length
  · subst e
    rw [upd_eq, List.getD_eq_getElem?_getD, List.getElem?_append_right (Nat.le_refl _), Nat.sub_self]; rfl
  · rw [upd_ne e, h i (by omega), List.getD_eq_getElem?_getD, List.getD_eq_getElem?_getD, List.getElem?_append_left (by omega)]
/-- a list of asks of these acts -/
def okK (X : AF) (n : Nat) (K : List Nat) : Prop := K.length ≤ 80 ∧ ∀ i, i < K.length → K.getD i 0 < n ∧ X 0 (K.getD i 0) = nI 4
def stB (X : AF) (K : List Nat) (i : Nat) : Bool := decide (i = 0) || !decide (X 3 (K.getD i 0) = X 3 (K.getD (i - 1) 0))
def eoF (X : AF) (K : List Nat) : Nat → Nat → Nat
  | 0, e => e
  | f + 1, e => cond (decide (e < K.length) && !stB X K e) (eoF X K f (e + 1)) e
def eoT (X : AF) (K : List Nat) (i : Nat) : Nat := eoF X K (K.length - (i + 1)) (i + 1)
theorem eoF_go {X : AF} {K : List Nat} {e : Nat} (h : e < K.length) (hs : stB X K e = false) : eoF X K (K.length - e) e = eoF X K (K.length - (e + 1)) (e + 1) := by
  obtain ⟨f, hf⟩ : ∃ f, K.length - e = f + 1 := ⟨K.length - e - 1, by omega⟩
  rw [hf, show K.length - (e + 1) = f by omega]
  show cond (decide (e < K.length) && !stB X K e) _ _ = _
  rw [decide_eq_true h, hs]; rfl
theorem eoF_st {X : AF} {K : List Nat} {e : Nat} (hs : stB X K e = true) (f : Nat) : eoF X K f e = e := by
  cases f with
  | zero => rfl
  | succ f =>
    show cond (decide (e < K.length) && !stB X K e) _ _ = _
    rw [hs]; simp
theorem eoF_end {X : AF} {K : List Nat} {e : Nat} (h : ¬ e < K.length) (f : Nat) : eoF X K f e = e := by
  cases f with
  | zero => rfl
  | succ f =>
    show cond (decide (e < K.length) && !stB X K e) _ _ = _
    rw [decide_eq_false h]; rfl
theorem eoF_in (X : AF) (K : List Nat) (f e : Nat) (he : e + f ≤ K.length ∨ f = 0) (h2 : e ≤ K.length) : e ≤ eoF X K f e ∧ eoF X K f e ≤ K.length := by
  induction f generalizing e with
  | zero => exact ⟨Nat.le_refl _, h2⟩
  | succ f ih =>
    show e ≤ cond (decide (e < K.length) && !stB X K e) _ _ ∧ cond (decide (e < K.length) && !stB X K e) _ _ ≤ _
    cases hb : (decide (e < K.length) && !stB X K e)
    · exact ⟨Nat.le_refl _, h2⟩
    · have := ih (e + 1) (by omega) (by omega)
      exact ⟨by simp; omega, by simp; omega⟩
theorem eoT_in {X : AF} {K : List Nat} {i : Nat} (h : i < K.length) : i + 1 ≤ eoT X K i ∧ eoT X K i ≤ K.length := eoF_in X K _ _ (by omega) (by omega)
/-- ask j of the group at fr -/
def gK (K : List Nat) (fr : Nat) (j : Nat) : Nat := K.getD (fr + j) 0
def wan (X : AF) (K : List Nat) (fr c : Nat) : Nat := sumR (fun j => bN X (gK K fr j)) c
def shr (b lf w : Nat) : Nat := if w ≤ lf then b else b * lf / w
def shX (X : AF) (K : List Nat) (fr lf w : Nat) (j : Nat) : Nat := shr (bN X (gK K fr j)) lf w
def spn (X : AF) (K : List Nat) (fr lf w c : Nat) : Nat := sumR (shX X K fr lf w) c
def accF (g0 : Nat → Int32) (al w : Nat → Nat) (c : Nat) : Nat → Int32 := fun i => g0 i + nI (sumR (fun j => if al j = i then w j else 0) c)
theorem accF_0 (g0 : Nat → Int32) (al w : Nat → Nat) : accF g0 al w 0 = g0 := funext fun i => by
  show g0 i + nI 0 = g0 i
  rw [nI_0, Int32.add_zero]
theorem accF_s (g0 : Nat → Int32) (al w : Nat → Nat) (c : Nat) : upd (accF g0 al w c) (al c) (accF g0 al w c (al c) + nI (w c)) = accF g0 al w (c + 1) := funext fun i => by
  by_cases h : i = al c
  · subst h
    rw [upd_eq]
    show g0 (al c) + nI _ + nI (w c) = g0 (al c) + nI (sumR _ c + if al c = al c then w c else 0)
    rw [if_pos rfl, ← nI_add, Int32.add_assoc]
  · rw [upd_ne h]
    show g0 i + nI _ = g0 i + nI (sumR _ c + if al c = i then w c else 0)
    rw [if_neg (Ne.symm h), Nat.add_zero]
def aG (X : AF) (K : List Nat) (fr : Nat) (j : Nat) : Nat := aN X (gK K fr j)
/-- what is given over to the first ones: how many -/
def mre (X : AF) (K : List Nat) (fr cnt lf : Nat) : Nat := min cnt (min lf (wan X K fr cnt) - spn X K fr lf (wan X K fr cnt) cnt)
def srvR (X : AF) (K : List Nat) (fr cnt lf : Nat) : Nat := spn X K fr lf (wan X K fr cnt) cnt + mre X K fr cnt lf
def srvG (g0 : Nat → Int32) (X : AF) (K : List Nat) (fr cnt lf : Nat) : Nat → Int32 := accF (accF g0 (aG X K fr) (shX X K fr lf (wan X K fr cnt)) cnt) (aG X K fr) (fun _ => 1) (mre X K fr cnt lf)
theorem sumR_mulr (f : Nat → Nat) (d c : Nat) : sumR (fun j => f j * d) c = sumR f c * d := by
  induction c with
  | zero => exact (Nat.zero_mul d).symm
  | succ c ih =>
    show sumR _ c + f c * d = (sumR f c + f c) * d
    rw [ih, Nat.add_mul]
theorem sumR_mono {f g : Nat → Nat} {c : Nat} (h : ∀ j, j < c → f j ≤ g j) : sumR f c ≤ sumR g c := by
  induction c with
  | zero => exact Nat.le_refl _
  | succ c ih =>
    have h1 := ih (fun j hj => h j (by omega))
    have h2 := h c (by omega)
    show sumR f c + f c ≤ sumR g c + g c
    omega
/-- shares never pass what is left, nor what is wanted -/
theorem spn_le (X : AF) (K : List Nat) (fr cnt lf : Nat) : spn X K fr lf (wan X K fr cnt) cnt ≤ min lf (wan X K fr cnt) := by
  generalize hw : wan X K fr cnt = w
  by_cases h : w ≤ lf
  · have e : spn X K fr lf w cnt = w := by
      unfold spn
      rw [← hw]
      exact sumR_congr (fun j _ => by unfold shX shr; rw [if_pos (by rw [hw]; exact h)])
    rw [e]
    omega
  · have h1 : spn X K fr lf w cnt * w ≤ w * lf := by
      unfold spn
      rw [← sumR_mulr]
      have h2 : sumR (fun j => shX X K fr lf w j * w) cnt ≤ sumR (fun j => bN X (gK K fr j) * lf) cnt := sumR_mono (fun j _ => by unfold shX shr; rw [if_neg h]; exact Nat.div_mul_le_self _ _)
      have h3 : sumR (fun j => bN X (gK K fr j)) cnt = w := hw
      rw [sumR_mulr (fun j => bN X (gK K fr j)) lf cnt, h3] at h2
      exact h2
    have hw0 : 0 < w := by omega
    have h4 : spn X K fr lf w cnt ≤ lf := Nat.le_of_mul_le_mul_right (by rw [Nat.mul_comm lf w]; exact h1) hw0
    omega
theorem srvR_le (X : AF) (K : List Nat) (fr cnt lf : Nat) : srvR X K fr cnt lf ≤ lf := by
  have := spn_le X K fr cnt lf
  unfold srvR mre
  omega
/-- all asks, time after time: what is left, what each has -/
def saT (X : AF) (K : List Nat) : Nat → Nat × (Nat → Int32)
  | 0 => (1000, fun _ => nI 0)
  | i + 1 => cond (stB X K i) ((saT X K i).1 - srvR X K i (eoT X K i - i) (saT X K i).1, srvG (saT X K i).2 X K i (eoT X K i - i) (saT X K i).1) (saT X K i)
theorem saT_t {X : AF} {K : List Nat} {i : Nat} (h : stB X K i = true) : saT X K (i + 1) = ((saT X K i).1 - srvR X K i (eoT X K i - i) (saT X K i).1, srvG (saT X K i).2 X K i (eoT X K i - i) (saT X K i).1) := by
  show cond (stB X K i) _ _ = _
  rw [h]; rfl
theorem saT_f {X : AF} {K : List Nat} {i : Nat} (h : stB X K i = false) : saT X K (i + 1) = saT X K i := by
  show cond (stB X K i) _ _ = _
  rw [h]; rfl
theorem saT_le (X : AF) (K : List Nat) (i : Nat) : (saT X K i).1 ≤ 1000 := by
  induction i with
  | zero => exact Nat.le_refl _
  | succ i ih =>
    cases h : stB X K i
    · rw [saT_f h]; exact ih
    · rw [saT_t h]
      show (saT X K i).1 - _ ≤ 1000
      omega
theorem wan_le {X : AF} {n : Nat} {K : List Nat} {fr c : Nat} (hA : aok X n) (hK : okK X n K) (h : fr + c ≤ K.length) : wan X K fr c ≤ c * 1000 := sumR_le (fun j hj => by
  have h1 := hK.2 (fr + j) (by omega)
  exact (bN_eq (hA.2 _ h1.1) h1.2).2.2)
theorem shr_le {b lf w : Nat} (hb : b ≤ 1000) (hl : lf ≤ 1000) : shr b lf w ≤ 1000000 := by
  unfold shr
  by_cases h : w ≤ lf
  · rw [if_pos h]; omega
  · rw [if_neg h]
    have h1 : b * lf ≤ 1000 * 1000 := Nat.mul_le_mul hb hl
    exact Nat.le_trans (Nat.div_le_self _ _) (by omega)
