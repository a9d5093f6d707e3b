section JY
variable {p : Program} {l : Launch} {e : Env} {R : Room} {s : State} {m : MethodId} {args : Array Value} {below : List Frame} {meth : Method} {c : Code} {Q : State → Prop} {D : va_G} {cl : List vw_C} {tys : List (ClassId × FieldType)} {A : Nat → Prop} {H0 : Heap} {nL cells slots : Nat}
variable {ws ws' : va_W} {lv : List (Nat × Value)} {pc : Nat} {st : List Value} {cc : ByteArray} {Ts : List Cond} {own : String}
theorem j_alen (F : CallFix p m c cc nL s args Ts own) (hK : va_K D cl tys s) (q0 t0 : Nat) {a : Nat} {cA : ClassId} {n : Nat} {f : Nat → Int32} (ha : ws[q0]? = some (a, .inl (cA, n, .inl f))) (ht : tys[t0]? = some (cA, .int)) (d : decode cc pc = .ok (.arraylength, 1))
    (k : J p l e R s m args below meth c D cl A H0 nL cells slots Q ws lv (pc + 1) (.int (nI n) :: st)) : J p l e R s m args below meth c D cl A H0 nL cells slots Q ws lv pc (.ref a :: st) := fun H locs ls hP hD hS hl => va_alen F.1 F.2.1 hK hP q0 t0 ha ht (v := nI n) rfl d (k H locs ls hP hD hS hl)
end JY
/-! the order: insertion by VALID and KIND, numbers ascending -/
def rowL (f : Nat → Int32) (L : List Nat) : Prop := ∀ i, i < L.length → f i = nI (L.getD i 0)
def insPos (X : AF) (L : List Nat) (x : Nat) : Nat → Nat
  | 0 => 0
  | k + 1 => cond (ahB X x (L.getD k 0)) (insPos X L x k) (k + 1)
def ins (X : AF) (L : List Nat) (x : Nat) : List Nat := L.take (insPos X L x L.length) ++ x :: L.drop (insPos X L x L.length)
theorem insPos_le (X : AF) (L : List Nat) (x k : Nat) : insPos X L x k ≤ k := by
  induction k with
  | zero => exact Nat.le_refl _
  | succ k ih =>
    show cond (ahB X x (L.getD k 0)) (insPos X L x k) (k + 1) ≤ k + 1
    cases ahB X x (L.getD k 0)
    · exact Nat.le_refl _
    · exact Nat.le_succ_of_le ih
theorem insPos_stop {X : AF} {L : List Nat} {x k : Nat} (h : 0 < k) (hb : ahB X x (L.getD (k - 1) 0) = false) : insPos X L x k = k := by
  obtain ⟨j, rfl⟩ : ∃ j, k = j + 1 := ⟨k - 1, by omega⟩
  rw [Nat.add_sub_cancel] at hb
  show cond (ahB X x (L.getD j 0)) (insPos X L x j) (j + 1) = j + 1
  rw [hb]; rfl
theorem insPos_go {X : AF} {L : List Nat} {x k : Nat} (h : 0 < k) (hb : ahB X x (L.getD (k - 1) 0) = true) : insPos X L x k = insPos X L x (k - 1) := by
  obtain ⟨j, rfl⟩ : ∃ j, k = j + 1 := ⟨k - 1, by omega⟩
  rw [Nat.add_sub_cancel] at hb ⊢
  show cond (ahB X x (L.getD j 0)) (insPos X L x j) (j + 1) = _
  rw [hb]; rfl
theorem ins_len (X : AF) (L : List Nat) (x : Nat) : (ins X L x).length = L.length + 1 := by
  have := insPos_le X L x L.length
  unfold ins
  rw [List.length_append, List.length_take, List.length_cons, List.length_drop]
  omega
theorem spl_getD (L : List Nat) (s x i : Nat) (hs : s ≤ L.length) : (L.take s ++ x :: L.drop s).getD i 0 = if i < s then L.getD i 0 else if i = s then x else L.getD (i - 1) 0 := by
  rw [List.getD_eq_getElem?_getD, List.getElem?_append, List.length_take, Nat.min_eq_left hs]
  by_cases h : i < s
  · rw [if_pos h, if_pos h, List.getElem?_take, if_pos h, List.getD_eq_getElem?_getD]
  · rw [if_neg h, if_neg h]
    by_cases h2 : i = s
    · rw [if_pos h2, h2, Nat.sub_self]; rfl
    · rw [if_neg h2]
      obtain ⟨j, hj⟩ : ∃ j, i - s = j + 1 := ⟨i - s - 1, by omega⟩
      rw [hj, List.getElem?_cons_succ, List.getElem?_drop, List.getD_eq_getElem?_getD, show s + j = i - 1 by omega]
theorem ins_row {X : AF} {L : List Nat} {x sp : Nat} {f g : Nat → Int32} (hsp : sp ≤ L.length) (hs : insPos X L x sp = insPos X L x L.length) (hst : insPos X L x sp = sp) (hL : rowL f L) (hlo : ∀ i, i < sp → g i = f i) (hhi : ∀ i, sp < i → i ≤ L.length → g i = f (i - 1)) : rowL (upd g sp (nI x)) (ins X L x) := by
  intro i hi
  rw [ins_len] at hi
  unfold ins
  rw [← hs, hst, spl_getD L sp x i hsp]
  by_cases h : i < sp
  · rw [if_pos h, upd_ne (by omega), hlo i h, hL i (by omega)]
  · rw [if_neg h]
    by_cases h2 : i = sp
    · rw [if_pos h2, h2, upd_eq]
    · rw [if_neg h2, upd_ne h2, hhi i (by omega) (by omega), hL (i - 1) (by omega)]
def ordTo (X : AF) (n : Nat) (t k : Int32) : Nat → List Nat
  | 0 => []
  | i + 1 => cond (hdB X n t k i) (ins X (ordTo X n t k i) i) (ordTo X n t k i)
theorem ordTo_f {X : AF} {n : Nat} {t k : Int32} {i : Nat} (h : hdB X n t k i = false) : ordTo X n t k (i + 1) = ordTo X n t k i := by
  show cond (hdB X n t k i) _ _ = _
  rw [h]; rfl
theorem ordTo_t {X : AF} {n : Nat} {t k : Int32} {i : Nat} (h : hdB X n t k i = true) : ordTo X n t k (i + 1) = ins X (ordTo X n t k i) i := by
  show cond (hdB X n t k i) _ _ = _
  rw [h]; rfl
theorem ins_mem {X : AF} {L : List Nat} {x y : Nat} : y ∈ ins X L x ↔ y = x ∨ y ∈ L := by
  unfold ins
  rw [List.mem_append, List.mem_cons]
  constructor
  · rintro (h | h | h)
    · exact Or.inr (List.mem_of_mem_take h)
    · exact Or.inl h
    · exact Or.inr (List.mem_of_mem_drop h)
  · rintro (h | h)
    · exact Or.inr (Or.inl h)
    · rw [← List.take_append_drop (insPos X L x L.length) L] at h
      rcases List.mem_append.mp h with h | h
      · exact Or.inl h
      · exact Or.inr (Or.inr h)
theorem ordTo_len (X : AF) (n : Nat) (t k : Int32) (i : Nat) : (ordTo X n t k i).length ≤ i := by
  induction i with
  | zero => exact Nat.le_refl _
  | succ i ih =>
    cases h : hdB X n t k i
    · rw [ordTo_f h]; omega
    · rw [ordTo_t h, ins_len]; omega
theorem ordTo_mem {X : AF} {n : Nat} {t k : Int32} {i y : Nat} : y ∈ ordTo X n t k i ↔ y < i ∧ hdB X n t k y = true := by
  induction i with
  | zero => exact ⟨fun h => absurd h List.not_mem_nil, fun h => absurd h.1 (Nat.not_lt_zero _)⟩
  | succ i ih =>
    cases h : hdB X n t k i
    · rw [ordTo_f h, ih]
      refine ⟨fun q => ⟨by omega, q.2⟩, fun q => ⟨?_, q.2⟩⟩
      by_cases e : y = i
      · rw [e, h] at q; exact absurd q.2 Bool.false_ne_true
      · omega
    · rw [ordTo_t h, ins_mem, ih]
      refine ⟨?_, ?_⟩
      · rintro (e | q)
        · rw [e]; exact ⟨by omega, h⟩
        · exact ⟨by omega, q.2⟩
      · intro q
        by_cases e : y = i
        · exact Or.inl e
        · exact Or.inr ⟨by omega, q.2⟩
theorem getD_mem {L : List Nat} {i : Nat} (h : i < L.length) : L.getD i 0 ∈ L := by
  rw [List.getD_eq_getElem?_getD, List.getElem?_eq_getElem h]
  exact List.getElem_mem h
theorem ordTo_lt {X : AF} {n : Nat} {t k : Int32} {i j : Nat} (h : j < (ordTo X n t k i).length) : (ordTo X n t k i).getD j 0 < i := (ordTo_mem.mp (getD_mem h)).1
def ordL (X : AF) (n : Nat) (t k : Int32) : List Nat := ordTo X n t k n
