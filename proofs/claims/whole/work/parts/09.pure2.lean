theorem cell_ext {cA : ClassId} {n : Nat} {f g : Nat → Int32} (h : ∀ i, i < n → f i = g i) : vp_cell cA (n, .inl f) = vp_cell cA (n, .inl g) := by
  show arrV cA n (fun j => .int (f j)) = arrV cA n (fun j => .int (g j))
  unfold arrV
  have e : (fun j : Fin n => Value.int (f j.val)) = fun j : Fin n => Value.int (g j.val) := funext fun j => by rw [h j.val j.isLt]
  rw [e]
section JX
variable {p : Program} {l : Launch} {e : Env} {R : Room} {s : State} {m : MethodId} {args : Array Value} {below : List Frame} {meth : Method} {c : Code} {Q : State → Prop} {D : va_G} {cl : List vw_C} {A : Nat → Prop} {H0 : Heap} {nL cells slots : Nat}
variable {ws ws' : va_W} {lv : List (Nat × Value)} {pc : Nat} {st : List Value}
/-- an array's contents count below its length alone -/
theorem j_ext (q0 : Nat) {a : Nat} {cA : ClassId} {n : Nat} {f g : Nat → Int32} (he : ws[q0]? = some (a, .inl (cA, n, .inl f))) (h : ∀ i, i < n → f i = g i) (hw : ws.set q0 (a, .inl (cA, n, .inl g)) = ws')
    (k : J p l e R s m args below meth c D cl A H0 nL cells slots Q ws' lv pc st) : J p l e R s m args below meth c D cl A H0 nL cells slots Q ws lv pc st := by
  intro H locs ls hP hD hS hl
  refine k H locs ls ?_ (hw ▸ hD.set he) hS hl
  rw [← hw]
  refine hP.set hD he ?_ (fun _ _ => rfl)
  have h1 : H[a]? = some (vp_cell cA (n, .inl f)) := hP q0 _ he
  show H[a]? = some (vp_cell cA (n, .inl g))
  rw [← cell_ext h]
  exact h1
end JX
/-! what can be told, kind by kind -/
theorem tell0 {X : AF} {n : Nat} {kd a b : Int32} (h : kd = nI 0) : tellB X n kd a b = (win a (nI 0) (nI 19) && win b (nI 0) (nI 99)) := by unfold tellB; rw [if_pos h]
theorem tell1 {X : AF} {n : Nat} {kd a b : Int32} (h : kd = nI 1) : tellB X n kd a b = (win a (nI 0) (nI 19) && decide (b = nI 0)) := by unfold tellB; rw [if_neg (by rw [h]; decide), if_pos h]
theorem tell2 {X : AF} {n : Nat} {kd a b : Int32} (h : kd = nI 2) : tellB X n kd a b = (win a (nI 0) (nI 9) && win b (nI 0) (nI 5)) := by unfold tellB; rw [if_neg (by rw [h]; decide), if_neg (by rw [h]; decide), if_pos h]
theorem tell3 {X : AF} {n : Nat} {kd a b : Int32} (h : kd = nI 3) : tellB X n kd a b = (win a (nI 0) (nI 9) && win b (-1000000) 1000000) := by unfold tellB; rw [if_neg (by rw [h]; decide), if_neg (by rw [h]; decide), if_neg (by rw [h]; decide), if_pos h]
theorem tell4 {X : AF} {n : Nat} {kd a b : Int32} (h : kd = nI 4) : tellB X n kd a b = (win a (nI 0) (nI 9) && win b (nI 1) (nI 1000)) := by unfold tellB; rw [if_neg (by rw [h]; decide), if_neg (by rw [h]; decide), if_neg (by rw [h]; decide), if_neg (by rw [h]; decide), if_pos h]
theorem tell5 {X : AF} {n : Nat} {kd a b : Int32} (h : kd = nI 5) : tellB X n kd a b = ((decide (nI 0 ≤ a) && decide (a < nI n)) && (!decide (X 0 a.toNatClampNeg = nI 5) && decide (b = nI 0))) := by unfold tellB; rw [if_neg (by rw [h]; decide), if_neg (by rw [h]; decide), if_neg (by rw [h]; decide), if_neg (by rw [h]; decide), if_neg (by rw [h]; decide), if_pos h]
theorem tellN {X : AF} {n : Nat} {kd a b : Int32} (h : ∀ k, k ≤ 5 → kd ≠ nI k) : tellB X n kd a b = false := by unfold tellB; rw [if_neg (h 0 (by decide)), if_neg (h 1 (by decide)), if_neg (h 2 (by decide)), if_neg (h 3 (by decide)), if_neg (h 4 (by decide)), if_neg (h 5 (by decide))]
theorem win_nat {x : Int32} {lo hi : Nat} (hh : hi < 2147483648) (h : win x (nI lo) (nI hi) = true) (hl : lo < 2147483648) : ∃ j, lo ≤ j ∧ j ≤ hi ∧ x = nI j := by
  unfold win at h
  rw [Bool.and_eq_true, decide_eq_true_iff, decide_eq_true_iff] at h
  obtain ⟨h1, h2⟩ := h
  rw [jn_le, nI_toInt hl] at h1
  rw [jn_le, nI_toInt hh] at h2
  refine ⟨x.toInt.toNat, by omega, by omega, jn_of (by omega) (by omega)⟩
/-- the acts with one more -/
def apnd (X : AF) (n : Nat) (kd a b v k : Int32) : AF := fun r => match r with
  | 0 => upd (X 0) n kd
  | 1 => upd (X 1) n a
  | 2 => upd (X 2) n b
  | 3 => upd (X 3) n v
  | _ => upd (X 4) n k
theorem upd_eq {f : Nat → Int32} {k : Nat} {x : Int32} : upd f k x k = x := pk_us
theorem upd_ne {f : Nat → Int32} {k j : Nat} {x : Int32} (h : j ≠ k) : upd f k x j = f j := pk_un h
theorem upd_self {f : Nat → Int32} {k : Nat} : upd f k (f k) = f := funext fun j => by
  by_cases h : j = k
  · rw [h, upd_eq]
  · rw [upd_ne h]
theorem apnd_ok {X : AF} {n : Nat} {kd a b v k : Int32} (hA : aok X n) (hn : n < 80) (hv : win v (nI 0) (nI 10000) = true) (ht : tellB X n kd a b = true) : aok (apnd X n kd a b v k) (n + 1) := by
  refine ⟨by omega, fun i hi => ?_⟩
  by_cases hin : i = n
  · subst hin
    obtain ⟨v', -, hv1, hv2⟩ := win_nat (by decide) hv (by decide)
    refine ⟨⟨v', hv1, by show upd (X 3) i v i = _; rw [upd_eq]; exact hv2⟩, ?_⟩
    show (upd (X 0) i kd i = _ ∧ (∃ a', a' < 20 ∧ upd (X 1) i a i = nI a') ∧ ∃ b', b' < 100 ∧ upd (X 2) i b i = nI b') ∨ (upd (X 0) i kd i = _ ∧ ∃ a', a' < 20 ∧ upd (X 1) i a i = nI a') ∨ (upd (X 0) i kd i = _ ∧ ∃ a', a' < 10 ∧ upd (X 1) i a i = nI a') ∨ (upd (X 0) i kd i = _ ∧ ∃ a', a' < 10 ∧ upd (X 1) i a i = nI a') ∨ (upd (X 0) i kd i = _ ∧ (∃ a', a' < 10 ∧ upd (X 1) i a i = nI a') ∧ ∃ b', 1 ≤ b' ∧ b' ≤ 1000 ∧ upd (X 2) i b i = nI b') ∨ (upd (X 0) i kd i = _ ∧ ∃ a', a' < i ∧ upd (X 1) i a i = nI a')
    rw [upd_eq, upd_eq, upd_eq]
    rcases jn_sw5 kd with hz | hz | hz | hz | hz | hz | hz
    · rw [tell0 hz.2, Bool.and_eq_true] at ht
      obtain ⟨a', -, h1, h2⟩ := win_nat (by decide) ht.1 (by decide)
      obtain ⟨b', -, h3, h4⟩ := win_nat (by decide) ht.2 (by decide)
      exact Or.inl ⟨hz.2, ⟨a', by omega, h2⟩, b', by omega, h4⟩
    · rw [tell1 hz.2, Bool.and_eq_true] at ht
      obtain ⟨a', -, h1, h2⟩ := win_nat (by decide) ht.1 (by decide)
      exact Or.inr (Or.inl ⟨hz.2, a', by omega, h2⟩)
    · rw [tell2 hz.2, Bool.and_eq_true] at ht
      obtain ⟨a', -, h1, h2⟩ := win_nat (by decide) ht.1 (by decide)
      exact Or.inr (Or.inr (Or.inl ⟨hz.2, a', by omega, h2⟩))
    · rw [tell3 hz.2, Bool.and_eq_true] at ht
      obtain ⟨a', -, h1, h2⟩ := win_nat (by decide) ht.1 (by decide)
      exact Or.inr (Or.inr (Or.inr (Or.inl ⟨hz.2, a', by omega, h2⟩)))
    · rw [tell4 hz.2, Bool.and_eq_true] at ht
      obtain ⟨a', -, h1, h2⟩ := win_nat (by decide) ht.1 (by decide)
      obtain ⟨b', h5, h3, h4⟩ := win_nat (by decide) ht.2 (by decide)
      exact Or.inr (Or.inr (Or.inr (Or.inr (Or.inl ⟨hz.2, ⟨a', by omega, h2⟩, b', h5, h3, h4⟩))))
    · rw [tell5 hz.2, Bool.and_eq_true, Bool.and_eq_true, decide_eq_true_iff, decide_eq_true_iff] at ht
      obtain ⟨⟨h1, h2⟩, -⟩ := ht
      rw [jn_le, nI_toInt (by decide)] at h1
      rw [jn_lt, nI_toInt (by omega)] at h2
      exact Or.inr (Or.inr (Or.inr (Or.inr (Or.inr ⟨hz.2, a.toInt.toNat, by omega, jn_of (by omega) (by omega)⟩))))
    · rw [tellN hz.2] at ht
      cases ht
  · have h := hA.2 i (by omega)
    have e : ∀ r, r < 5 → apnd X n kd a b v k r i = X r i := by
      intro r hr
      rcases (show r = 0 ∨ r = 1 ∨ r = 2 ∨ r = 3 ∨ r = 4 by omega) with rfl | rfl | rfl | rfl | rfl <;> exact upd_ne hin
    unfold aok1 at h ⊢
    rw [e 0 (by decide), e 1 (by decide), e 2 (by decide), e 3 (by decide)]
    exact h
