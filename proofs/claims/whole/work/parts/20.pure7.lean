/-! boxes lie at slots 0 .. 99, no two at one -/
theorem stS_ok {X : AF} {e : Nat} {sl : Nat → Int32} (hk : aok1 X e) (h : slOk sl) : slOk (stS X e sl) := by
  by_cases h0 : X 0 e = nI 0
  · obtain ⟨⟨a, ha, ea⟩, b, hb, eb⟩ := aok_0 hk h0
    cases hf : freeB sl (X 2 e)
    · rw [stS_0f h0 hf]; exact h
    · rw [stS_0t h0 ea ha hf]
      intro i hi
      by_cases e1 : i = a
      · rw [e1, upd_eq]; exact Or.inr ⟨b, hb, eb⟩
      · rw [upd_ne e1]; exact h i hi
  · by_cases h1 : X 0 e = nI 1
    · obtain ⟨a, ha, ea⟩ := aok_1 hk h1
      rw [stS_1 h1 ea ha]
      intro i hi
      by_cases e1 : i = a
      · rw [e1, upd_eq]; exact Or.inl rfl
      · rw [upd_ne e1]; exact h i hi
    · rw [stS_n h0 h1]; exact h
def slInj (sl : Nat → Int32) : Prop := ∀ i j, i < 20 → j < 20 → sl i = sl j → sl i = -1 ∨ i = j
theorem freeB_ne {sl : Nat → Int32} {x : Int32} (h : freeB sl x = true) {i : Nat} (hi : i < 20) : ¬ sl i = x := fun e => by
  rw [freeB_f hi e] at h
  exact Bool.false_ne_true h
theorem stS_inj {X : AF} {e : Nat} {sl : Nat → Int32} (hk : aok1 X e) (h : slInj sl) : slInj (stS X e sl) := by
  by_cases h0 : X 0 e = nI 0
  · obtain ⟨⟨a, ha, ea⟩, b, hb, eb⟩ := aok_0 hk h0
    cases hf : freeB sl (X 2 e)
    · rw [stS_0f h0 hf]; exact h
    · rw [stS_0t h0 ea ha hf]
      intro i j hi hj e1
      by_cases ei : i = a
      · by_cases ej : j = a
        · exact Or.inr (ei.trans ej.symm)
        · rw [ei, upd_eq, upd_ne ej] at e1
          exact absurd e1.symm (freeB_ne hf hj)
      · by_cases ej : j = a
        · rw [ej, upd_eq, upd_ne ei] at e1
          exact absurd e1 (freeB_ne hf hi)
        · rw [upd_ne ei, upd_ne ej] at e1
          rw [upd_ne ei]
          exact h i j hi hj e1
  · by_cases h1 : X 0 e = nI 1
    · obtain ⟨a, ha, ea⟩ := aok_1 hk h1
      rw [stS_1 h1 ea ha]
      intro i j hi hj e1
      by_cases ei : i = a
      · rw [ei, upd_eq]; exact Or.inl rfl
      · by_cases ej : j = a
        · rw [ej, upd_eq] at e1
          exact Or.inl e1
        · rw [upd_ne ei, upd_ne ej] at e1
          rw [upd_ne ei]
          exact h i j hi hj e1
    · rw [stS_n h0 h1]; exact h
theorem slT_ok {X : AF} {n : Nat} (hA : aok X n) {L : List Nat} (hm : ∀ i, i < L.length → L.getD i 0 < n) (i : Nat) (hi : i ≤ L.length) : slOk (slT X L i) ∧ slInj (slT X L i) := by
  induction i with
  | zero => exact ⟨fun b _ => Or.inl rfl, fun i j _ _ _ => Or.inl rfl⟩
  | succ i ih =>
    have h := ih (by omega)
    have hk := hA.2 _ (hm i (by omega))
    exact ⟨stS_ok hk h.1, stS_inj hk h.2⟩
theorem ordL_lt {X : AF} {n : Nat} {t k : Int32} : ∀ i, i < (ordL X n t k).length → (ordL X n t k).getD i 0 < n := fun _ h => ordTo_lt h
theorem ordL_len {X : AF} {n : Nat} {t k : Int32} : (ordL X n t k).length ≤ n := ordTo_len X n t k n
theorem slP_ok {X : AF} {n : Nat} (hA : aok X n) (t k : Int32) : slOk (slP X n t k) := (slT_ok hA ordL_lt _ (Nat.le_refl _)).1
theorem slP_inj {X : AF} {n : Nat} (hA : aok X n) (t k : Int32) : slInj (slP X n t k) := (slT_ok hA ordL_lt _ (Nat.le_refl _)).2
/-- which box lies at a slot is one answer -/
theorem bxP_one {sl : Nat → Int32} {x r r2 : Int32} (hi : slInj sl) (hx : ¬ x = -1) (h : bxP sl x r) (h2 : bxP sl x r2) : r = r2 := by
  rcases h with h | ⟨b, hb, e, hs⟩
  · rcases h2 with h2 | ⟨c, hc, e2, hs2⟩
    · rw [h.1, h2.1]
    · exact absurd hs2 (h.2 c hc)
  · rcases h2 with h2 | ⟨c, hc, e2, hs2⟩
    · exact absurd hs (h2.2 b hb)
    · rcases hi b c hb hc (hs.trans hs2.symm) with h3 | h3
      · rw [hs] at h3; exact absurd h3 hx
      · rw [e, e2, h3]
def aptP (sl : Nat → Int32) (b c : Nat) : Int32 := if sl b = -1 ∨ sl c = -1 then -1 else nI (dst (sN sl b) (sN sl c))
def quoP (X : AF) (n : Nat) (t k : Int32) : Nat → Int32 := (saT X (asksL X (ordL X n t k)) (asksL X (ordL X n t k)).length).2
def cntP (X : AF) (n : Nat) (now rf w : Int32) : Int32 := if w = nI 0 then nI n else if w = nI 1 then now else if w = nI 2 then rf else if w = nI 3 then nI (cntB (fun j => vdB X n j now) n) else -1
def lkP (X : AF) (n : Nat) (now : Int32) (e : Nat) (w : Int32) : Int32 := if w = nI 0 then X 0 e else if w = nI 1 then X 1 e else if w = nI 2 then X 2 e else if w = nI 3 then X 3 e else if w = nI 4 then X 4 e else bI (vdB X n e now)
def chgP (X : AF) (n : Nat) (t k o : Int32) : Int32 := nI (cntB (difS (slP X n t k) (slP X n t o)) 20 + cntB (difD (ttP X n t k) (ttP X n t o) (smP X n t k) (smP X n t o)) 10)
/-! the words of a throw -/
def nmE : List String := ["java/lang/RuntimeException", "java/lang/Exception"]
theorem atA0 : ∀ w ∈ (vx_atS R_X 156 "java/lang/IllegalArgumentException" nmE).filter goodWord, w ∈ lw_tbl := by decide +kernel
theorem atI0 : ∀ w ∈ (vx_atS R_X 117 "java/lang/IndexOutOfBoundsException" nmE).filter goodWord, w ∈ lw_tbl := by decide +kernel
theorem gdA : ∀ w ∈ Cond.classLink R_X 152 "java/lang/IllegalArgumentException" :: Cond.initialized "java/lang/IllegalArgumentException" :: vx_atS R_X 156 "java/lang/IllegalArgumentException" nmE, vx_ot w = true := by decide +kernel
theorem gdI : ∀ w ∈ Cond.classLink R_X 113 "java/lang/IndexOutOfBoundsException" :: Cond.initialized "java/lang/IndexOutOfBoundsException" :: vx_atS R_X 117 "java/lang/IndexOutOfBoundsException" nmE, vx_ot w = true := by decide +kernel
theorem bdA : ∀ w ∈ (vx_atS R_X 156 "java/lang/IllegalArgumentException" nmE).filter (fun w => !goodWord w), w ∈ [Cond.castable "java/lang/IllegalArgumentException" "java/lang/IllegalArgumentException", Cond.declares ⟨"java/lang/RuntimeException", "<init>", "(Ljava/lang/String;)V"⟩, Cond.declares ⟨"java/lang/Exception", "<init>", "(Ljava/lang/String;)V"⟩, Cond.declares ⟨"java/lang/Throwable", "<init>", "(Ljava/lang/String;)V"⟩] := by decide +kernel
theorem bdI : ∀ w ∈ (vx_atS R_X 117 "java/lang/IndexOutOfBoundsException" nmE).filter (fun w => !goodWord w), w ∈ [Cond.castable "java/lang/IndexOutOfBoundsException" "java/lang/IndexOutOfBoundsException", Cond.declares ⟨"java/lang/RuntimeException", "<init>", "(Ljava/lang/String;)V"⟩, Cond.declares ⟨"java/lang/Exception", "<init>", "(Ljava/lang/String;)V"⟩, Cond.declares ⟨"java/lang/Throwable", "<init>", "(Ljava/lang/String;)V"⟩] := by decide +kernel
theorem hatA {s : State} {args : Array Value} {x : Cond} (hts : ∀ w ∈ x :: WD, w.before args s = true) (hN : NWs nws s) : ∀ w ∈ vx_atS R_X 156 "java/lang/IllegalArgumentException" nmE, w.before args s = true :=
  vx_hat (fun w hw => hts w (wm (List.mem_filter.mpr ⟨atA0 w hw, (List.mem_filter.mp hw).2⟩))) bdA (vx_c (va_Nw.use rfl (hN _ n_218).1) (vx_c (va_Nw.use rfl (hN _ n_220).1) (vx_c (va_Nw.use rfl (hN _ n_222).1) (vx_c (va_Nw.use rfl (hN _ n_224).1) vx_n))))
theorem hatI {s : State} {args : Array Value} {x : Cond} (hts : ∀ w ∈ x :: WD, w.before args s = true) (hN : NWs nws s) : ∀ w ∈ vx_atS R_X 117 "java/lang/IndexOutOfBoundsException" nmE, w.before args s = true :=
  vx_hat (fun w hw => hts w (wm (List.mem_filter.mpr ⟨atI0 w hw, (List.mem_filter.mp hw).2⟩))) bdI (vx_c (va_Nw.use rfl (hN _ n_433).1) (vx_c (va_Nw.use rfl (hN _ n_220).1) (vx_c (va_Nw.use rfl (hN _ n_222).1) (vx_c (va_Nw.use rfl (hN _ n_224).1) vx_n))))
