theorem jn_no {x y : Int32} (h : x < y) (g : y ≤ x) : False := by
  rw [jn_lt] at h
  rw [jn_le] at g
  omega

def rm_X_isWithin : Room := { frames := 0, cells := 0, slots := 0, locals := 0 }
set_option maxHeartbeats 4000000 in
set_option maxRecDepth 100000 in
theorem ct_X_isWithin (l : Launch) (D : va_G) (cA : ClassId) (x lo hi : Int32) : Ci (S := Unit) l y_X_isWithin (Cond.code y_X_isWithin c_X_isWithin 3 (some .boolean) :: WD) rm_X_isWithin D vwCl [(cA, .int)] nws [.int x, .int lo, .int hi] [] 0 0 (fun r _ => r = bI (win x lo hi)) (fun _ => []) := by
  refine Ci.of (cc := c_X_isWithin) (nL := 3) (lv := [(0, .int x), (1, .int lo), (2, .int hi)]) (by decide) rfl (Nat.le_of_ble_eq_true rfl) rfl ?_
  intro p e s m args below meth cd A Q F hK hN hA ret
  refine j_iloadn F d_X_isWithin_0 0 rfl rfl ?_
  refine j_iloadn F d_X_isWithin_1 1 rfl rfl ?_
  refine j_ic_lt (tgt := 14) F d_X_isWithin_2 (by decide) (fun c_2 => ?_) (fun c_2 => ?_)
  · refine j_iconst (v := nI 0) F d_X_isWithin_14 (by decide) ?_
    exact ret _ _ _ _ _ _ () d_X_isWithin_15 rfl (by decide) (by decide) rfl (bI_f (by unfold win; rw [decide_eq_false (fun h => jn_no c_2 h)]; rfl))
  · refine j_iloadn F d_X_isWithin_5 0 rfl rfl ?_
    refine j_iloadn F d_X_isWithin_6 2 rfl rfl ?_
    refine j_ic_gt (tgt := 14) F d_X_isWithin_7 (by decide) (fun c_7 => ?_) (fun c_7 => ?_)
    · refine j_iconst (v := nI 0) F d_X_isWithin_14 (by decide) ?_
      exact ret _ _ _ _ _ _ () d_X_isWithin_15 rfl (by decide) (by decide) rfl (bI_f (by unfold win; rw [decide_eq_false (fun h => jn_no c_7 h), Bool.and_false]))
    · refine j_iconst (v := nI 1) F d_X_isWithin_10 (by decide) ?_
      refine j_goto (tgt := 15) F d_X_isWithin_11 (by decide) ?_
      exact ret _ _ _ _ _ _ () d_X_isWithin_15 rfl (by decide) (by decide) rfl (bI_t (by unfold win; rw [decide_eq_true (jn_nlt c_2), decide_eq_true (jn_nlt c_7)]; rfl))

def rm_X_isTime : Room := { frames := 1, cells := 0, slots := 0, locals := 22 }
set_option maxHeartbeats 4000000 in
set_option maxRecDepth 100000 in
theorem ct_X_isTime (l : Launch) (D : va_G) (cA : ClassId) (x : Int32) : Ci (S := Unit) l y_X_isTime (Cond.code y_X_isTime c_X_isTime 1 (some .boolean) :: WD) rm_X_isTime D vwCl [(cA, .int)] nws [.int x] [] 0 0 (fun r _ => r = bI (win x (nI 0) (nI 10000))) (fun _ => []) := by
  refine Ci.of (cc := c_X_isTime) (nL := 1) (lv := [(0, .int x)]) (by decide) rfl (Nat.le_of_ble_eq_true rfl) rfl ?_
  intro p e s m args below meth cd A Q F hK hN hA ret
  refine j_iloadn F d_X_isTime_0 0 rfl rfl ?_
  refine j_iconst (v := nI 0) F d_X_isTime_1 (by decide) ?_
  refine j_sipush (v := nI 10000) F d_X_isTime_2 (by decide) ?_
  refine j_goi (wc := []) (wr := []) hA [] [] rfl rfl (by decide) (by decide) (fun H locs ls hP hD hl => va_runS (As := [.int x, .int (nI 0), .int (nI 10000)]) (rest := []) F (ct_X_isWithin l D cA x (nI 0) (nI 10000) H.size) ⟨callB_of 3 F.2.2.2.2 (gd k_172) rfl rfl rfl (F.2.2.2.2 _ (wm k_1)) (F.2.2.2.2 _ (wm k_170)) (by decide +kernel) ⟨by decide, by decide⟩, F.2.2.2.2 _ (wm k_171)⟩ (pre_S hK hN hP hD [] rfl (by decide)) rfl rfl hl.1 rfl (lv_room (Nat.le_of_ble_eq_true rfl)) d_X_isTime_5 ⟨by decide, by decide⟩) (fun r5 u5 hw5 => ?_)
  subst hw5
  refine j_ws (ws' := []) [] (by decide) rfl ?_
  exact ret _ _ _ _ _ _ () d_X_isTime_8 (bI_nar _) (by decide) (by decide) rfl rfl

def rm_A_isFull : Room := { frames := 0, cells := 0, slots := 0, locals := 0 }
set_option maxHeartbeats 4000000 in
set_option maxRecDepth 100000 in
theorem ct_A_isFull (l : Launch) (D : va_G) (cA : ClassId) (a0 a1 a2 a3 a4 a5 : Nat) (X : AF) (n : Nat) (hn : n ≤ 80) : Ci (S := Unit) l y_A_isFull (Cond.code y_A_isFull c_A_isFull 1 (some .boolean) :: WD) rm_A_isFull D vwCl [(cA, .int)] nws [.ref a0] [(a0, .inr (0, [.ref a1, .ref a2, .ref a3, .ref a4, .ref a5, .int (nI n)])), (a1, .inl (cA, 80, .inl (X 0))), (a2, .inl (cA, 80, .inl (X 1))), (a3, .inl (cA, 80, .inl (X 2))), (a4, .inl (cA, 80, .inl (X 3))), (a5, .inl (cA, 80, .inl (X 4)))] 0 0 (fun r _ => r = bI (decide (80 ≤ n))) (fun _ => [(a0, .inr (0, [.ref a1, .ref a2, .ref a3, .ref a4, .ref a5, .int (nI n)])), (a1, .inl (cA, 80, .inl (X 0))), (a2, .inl (cA, 80, .inl (X 1))), (a3, .inl (cA, 80, .inl (X 2))), (a4, .inl (cA, 80, .inl (X 3))), (a5, .inl (cA, 80, .inl (X 4)))]) := by
  refine Ci.of (cc := c_A_isFull) (nL := 1) (lv := [(0, .ref a0)]) (by decide) rfl (Nat.le_of_ble_eq_true rfl) rfl ?_
  intro p e s m args below meth cd A Q F hK hN hA ret
  refine j_aloadn F d_A_isFull_0 0 rfl rfl ?_
  refine j_get (ci := 0) (v := .int (nI n)) F in_A hK 0 rfl rfl 5 (by decide) (wm k_47) rfl d_A_isFull_1 ?_
  refine j_bipush (v := nI 80) F d_A_isFull_4 (by decide) ?_
  refine j_ic_lt (tgt := 13) F d_A_isFull_6 (by decide) (fun c_6 => ?_) (fun c_6 => ?_)
  · have c_6 : n < 80 := (nI_ltI (by omega) (by omega)).mp c_6
    refine j_iconst (v := nI 0) F d_A_isFull_13 (by decide) ?_
    exact ret _ _ _ _ _ _ () d_A_isFull_14 rfl (by decide) (by decide) rfl (bI_f (decide_eq_false (by omega)))
  · have c_6 : ¬ n < 80 := fun h => c_6 ((nI_ltI (by omega) (by omega)).mpr h)
    refine j_iconst (v := nI 1) F d_A_isFull_9 (by decide) ?_
    refine j_goto (tgt := 14) F d_A_isFull_10 (by decide) ?_
    exact ret _ _ _ _ _ _ () d_A_isFull_14 rfl (by decide) (by decide) rfl (bI_t (decide_eq_true (by omega)))

def hasB (n : Nat) (a : Int32) : Bool := decide (nI 0 ≤ a) && decide (a < nI n)

def rm_A_has : Room := { frames := 0, cells := 0, slots := 0, locals := 0 }
set_option maxHeartbeats 4000000 in
set_option maxRecDepth 100000 in
theorem ct_A_has (l : Launch) (D : va_G) (cA : ClassId) (a0 a1 a2 a3 a4 a5 : Nat) (X : AF) (n : Nat) (hn : n ≤ 80) (x : Int32) : Ci (S := Unit) l y_A_has (Cond.code y_A_has c_A_has 2 (some .boolean) :: WD) rm_A_has D vwCl [(cA, .int)] nws [.ref a0, .int x] [(a0, .inr (0, [.ref a1, .ref a2, .ref a3, .ref a4, .ref a5, .int (nI n)])), (a1, .inl (cA, 80, .inl (X 0))), (a2, .inl (cA, 80, .inl (X 1))), (a3, .inl (cA, 80, .inl (X 2))), (a4, .inl (cA, 80, .inl (X 3))), (a5, .inl (cA, 80, .inl (X 4)))] 0 0 (fun r _ => r = bI (hasB n x)) (fun _ => [(a0, .inr (0, [.ref a1, .ref a2, .ref a3, .ref a4, .ref a5, .int (nI n)])), (a1, .inl (cA, 80, .inl (X 0))), (a2, .inl (cA, 80, .inl (X 1))), (a3, .inl (cA, 80, .inl (X 2))), (a4, .inl (cA, 80, .inl (X 3))), (a5, .inl (cA, 80, .inl (X 4)))]) := by
  refine Ci.of (cc := c_A_has) (nL := 2) (lv := [(0, .ref a0), (1, .int x)]) (by decide) rfl (Nat.le_of_ble_eq_true rfl) rfl ?_
  intro p e s m args below meth cd A Q F hK hN hA ret
  refine j_iloadn F d_A_has_0 1 rfl rfl ?_
  refine j_if_lt (tgt := 16) F d_A_has_1 (by decide) (fun c_1 => ?_) (fun c_1 => ?_)
  · refine j_iconst (v := nI 0) F d_A_has_16 (by decide) ?_
    exact ret _ _ _ _ _ _ () d_A_has_17 rfl (by decide) (by decide) rfl (bI_f (by unfold hasB; rw [decide_eq_false (fun h => jn_no c_1 h)]; rfl))
  · refine j_iloadn F d_A_has_4 1 rfl rfl ?_
    refine j_aloadn F d_A_has_5 0 rfl rfl ?_
    refine j_get (ci := 0) (v := .int (nI n)) F in_A hK 0 rfl rfl 5 (by decide) (wm k_47) rfl d_A_has_6 ?_
    refine j_ic_ge (tgt := 16) F d_A_has_9 (by decide) (fun c_9 => ?_) (fun c_9 => ?_)
    · refine j_iconst (v := nI 0) F d_A_has_16 (by decide) ?_
      exact ret _ _ _ _ _ _ () d_A_has_17 rfl (by decide) (by decide) rfl (bI_f (by unfold hasB; rw [decide_eq_false (fun h => jn_no h c_9), Bool.and_false]))
    · refine j_iconst (v := nI 1) F d_A_has_12 (by decide) ?_
      refine j_goto (tgt := 17) F d_A_has_13 (by decide) ?_
      exact ret _ _ _ _ _ _ () d_A_has_17 rfl (by decide) (by decide) rfl (bI_t (by unfold hasB; rw [decide_eq_true (jn_nlt c_1), decide_eq_true (jn_nle c_9)]; rfl))

def rm_A_isVoid : Room := { frames := 0, cells := 0, slots := 0, locals := 0 }
set_option maxHeartbeats 4000000 in
set_option maxRecDepth 100000 in
theorem ct_A_isVoid (l : Launch) (D : va_G) (cA : ClassId) (a0 a1 a2 a3 a4 a5 : Nat) (X : AF) (n : Nat) (hA0 : aok X n) (e0 : Nat) (he0 : e0 < n) (k : Int32) : Ci (S := Unit) l y_A_isVoid (Cond.code y_A_isVoid c_A_isVoid 4 (some .boolean) :: WD) rm_A_isVoid D vwCl [(cA, .int)] nws [.ref a0, .int (nI e0), .int k] [(a0, .inr (0, [.ref a1, .ref a2, .ref a3, .ref a4, .ref a5, .int (nI n)])), (a1, .inl (cA, 80, .inl (X 0))), (a2, .inl (cA, 80, .inl (X 1))), (a3, .inl (cA, 80, .inl (X 2))), (a4, .inl (cA, 80, .inl (X 3))), (a5, .inl (cA, 80, .inl (X 4)))] 0 0 (fun r _ => r = bI (vdB X n e0 k)) (fun _ => [(a0, .inr (0, [.ref a1, .ref a2, .ref a3, .ref a4, .ref a5, .int (nI n)])), (a1, .inl (cA, 80, .inl (X 0))), (a2, .inl (cA, 80, .inl (X 1))), (a3, .inl (cA, 80, .inl (X 2))), (a4, .inl (cA, 80, .inl (X 3))), (a5, .inl (cA, 80, .inl (X 4)))]) := by
  refine Ci.of (cc := c_A_isVoid) (nL := 4) (lv := [(0, .ref a0), (1, .int (nI e0)), (2, .int k)]) (by decide) rfl (Nat.le_of_ble_eq_true rfl) rfl ?_
  intro p e s m args below meth cd A Q F hK hN hA ret
  have h80 := hA0.1
  refine j_iloadn F d_A_isVoid_0 1 rfl rfl ?_
  refine j_iconst (v := nI 1) F d_A_isVoid_1 (by decide) ?_
  refine j_iadd (v := nI (e0 + 1)) F d_A_isVoid_2 (nI_add _ _) ?_
  refine j_istoren (lv' := [(3, .int (nI (e0 + 1))), (0, .ref a0), (1, .int (nI e0)), (2, .int k)]) F d_A_isVoid_3 rfl (by decide) rfl ?_
  have loop4 : ∀ (fuel : Nat) (j : Nat) (hfuel4 : n - j < fuel) (hj : e0 + 1 ≤ j) (hjn : j ≤ n) (hv : ∀ i, e0 < i → i < j → vdc X e0 k i = false), J p l e rm_A_isVoid s m args below meth cd D vwCl A s.heap 4 0 0 Q [(a0, .inr (0, [.ref a1, .ref a2, .ref a3, .ref a4, .ref a5, .int (nI n)])), (a1, .inl (cA, 80, .inl (X 0))), (a2, .inl (cA, 80, .inl (X 1))), (a3, .inl (cA, 80, .inl (X 2))), (a4, .inl (cA, 80, .inl (X 3))), (a5, .inl (cA, 80, .inl (X 4)))] [(0, .ref a0), (1, .int (nI e0)), (2, .int k), (3, .int (nI j))] 4 [] := by
    intro fuel
    induction fuel with
    | zero => intro j hfuel; exact absurd hfuel (Nat.not_lt_zero _)
    | succ fuel ih4 =>
      intro j hfuel4 hj hjn hv
      refine j_iloadn F d_A_isVoid_4 3 rfl rfl ?_
      refine j_aloadn F d_A_isVoid_5 0 rfl rfl ?_
      refine j_get (ci := 0) (v := .int (nI n)) F in_A hK 0 rfl rfl 5 (by decide) (wm k_47) rfl d_A_isVoid_6 ?_
      refine j_ic_ge (tgt := 50) F d_A_isVoid_9 (by decide) (fun c_9 => ?_) (fun c_9 => ?_)
      · have c_9 : n ≤ j := (nI_leI (by omega) (by omega)).mp c_9
        refine j_iconst (v := nI 0) F d_A_isVoid_50 (by decide) ?_
        exact ret _ _ _ _ _ _ () d_A_isVoid_51 rfl (by decide) (by decide) rfl (bI_f (vdB_f (fun i hi => by
          by_cases hie : i ≤ e0
          · exact vdc_early hA0 hi hie (by omega)
          · exact hv i (by omega) (by omega))))
      · have c_9 : ¬ n ≤ j := fun h => c_9 ((nI_leI (by omega) (by omega)).mpr h)
        refine j_aloadn F d_A_isVoid_12 0 rfl rfl ?_
        refine j_get (ci := 0) (v := .ref a1) F in_A hK 0 rfl rfl 0 (by decide) (wm k_30) rfl d_A_isVoid_13 ?_
        refine j_iloadn F d_A_isVoid_16 3 rfl rfl ?_
        refine j_iald (v := (X 0) j) F hK 1 0 rfl rfl (by omega) (by decide) d_A_isVoid_17 rfl ?_
        refine j_iconst (v := nI 5) F d_A_isVoid_18 (by decide) ?_
        refine j_ic_ne (tgt := 44) F d_A_isVoid_19 (by decide) (fun c_19 => ?_) (fun c_19 => ?_)
        · refine j_iinc (v := nI (j + 1)) (lv' := [(3, .int (nI (j + 1))), (0, .ref a0), (1, .int (nI e0)), (2, .int k)]) F d_A_isVoid_44 3 rfl (jn_inc j) (by decide) rfl ?_
          refine j_goto (tgt := 4) F d_A_isVoid_47 (by decide) ?_
          refine j_lv (lv' := [(0, .ref a0), (1, .int (nI e0)), (2, .int k), (3, .int (nI (j + 1)))]) [1, 2, 3, 0] rfl ?_
          exact ih4 (j + 1) (by omega) (by omega) (by omega) (fun i h1 h2 => by
            by_cases hij : i = j
            · subst hij; exact vdc_f0 c_19
            · exact hv i h1 (by omega))
        · refine j_aloadn F d_A_isVoid_22 0 rfl rfl ?_
          refine j_get (ci := 0) (v := .ref a2) F in_A hK 0 rfl rfl 1 (by decide) (wm k_34) rfl d_A_isVoid_23 ?_
          refine j_iloadn F d_A_isVoid_26 3 rfl rfl ?_
          refine j_iald (v := (X 1) j) F hK 2 0 rfl rfl (by omega) (by decide) d_A_isVoid_27 rfl ?_
          refine j_iloadn F d_A_isVoid_28 1 rfl rfl ?_
          refine j_ic_ne (tgt := 44) F d_A_isVoid_29 (by decide) (fun c_29 => ?_) (fun c_29 => ?_)
          · refine j_iinc (v := nI (j + 1)) (lv' := [(3, .int (nI (j + 1))), (0, .ref a0), (1, .int (nI e0)), (2, .int k)]) F d_A_isVoid_44 3 rfl (jn_inc j) (by decide) rfl ?_
            refine j_goto (tgt := 4) F d_A_isVoid_47 (by decide) ?_
            refine j_lv (lv' := [(0, .ref a0), (1, .int (nI e0)), (2, .int k), (3, .int (nI (j + 1)))]) [1, 2, 3, 0] rfl ?_
            exact ih4 (j + 1) (by omega) (by omega) (by omega) (fun i h1 h2 => by
              by_cases hij : i = j
              · subst hij; exact vdc_f1 c_29
              · exact hv i h1 (by omega))
          · refine j_aloadn F d_A_isVoid_32 0 rfl rfl ?_
            refine j_get (ci := 0) (v := .ref a5) F in_A hK 0 rfl rfl 4 (by decide) (wm k_45) rfl d_A_isVoid_33 ?_
            refine j_iloadn F d_A_isVoid_36 3 rfl rfl ?_
            refine j_iald (v := (X 4) j) F hK 5 0 rfl rfl (by omega) (by decide) d_A_isVoid_37 rfl ?_
            refine j_iloadn F d_A_isVoid_38 2 rfl rfl ?_
            refine j_ic_gt (tgt := 44) F d_A_isVoid_39 (by decide) (fun c_39 => ?_) (fun c_39 => ?_)
            · refine j_iinc (v := nI (j + 1)) (lv' := [(3, .int (nI (j + 1))), (0, .ref a0), (1, .int (nI e0)), (2, .int k)]) F d_A_isVoid_44 3 rfl (jn_inc j) (by decide) rfl ?_
              refine j_goto (tgt := 4) F d_A_isVoid_47 (by decide) ?_
              refine j_lv (lv' := [(0, .ref a0), (1, .int (nI e0)), (2, .int k), (3, .int (nI (j + 1)))]) [1, 2, 3, 0] rfl ?_
              exact ih4 (j + 1) (by omega) (by omega) (by omega) (fun i h1 h2 => by
                by_cases hij : i = j
                · subst hij; exact vdc_f4 (fun h => jn_no c_39 h)
                · exact hv i h1 (by omega))
            · refine j_iconst (v := nI 1) F d_A_isVoid_42 (by decide) ?_
              exact ret _ _ _ _ _ _ () d_A_isVoid_43 rfl (by decide) (by decide) rfl (bI_t (vdB_t (by omega) (vdc_t c_19 c_29 (jn_nlt c_39))))
  refine j_lv (lv' := [(0, .ref a0), (1, .int (nI e0)), (2, .int k), (3, .int (nI (e0 + 1)))]) [1, 2, 3, 0] rfl ?_
  exact loop4 (n - (e0 + 1) + 1) (e0 + 1) (by omega) (by omega) (by omega) (fun i h1 h2 => by omega)

def rm_A_voidsAsKnown : Room := { frames := 1, cells := 0, slots := 0, locals := 23 }
set_option maxHeartbeats 4000000 in
set_option maxRecDepth 100000 in
theorem ct_A_voidsAsKnown (l : Launch) (D : va_G) (cA : ClassId) (a0 a1 a2 a3 a4 a5 : Nat) (X : AF) (n : Nat) (hA0 : aok X n) (k : Int32) : Ci (S := Unit) l y_A_voidsAsKnown (Cond.code y_A_voidsAsKnown c_A_voidsAsKnown 4 (some .int) :: WD) rm_A_voidsAsKnown D vwCl [(cA, .int)] nws [.ref a0, .int k] [(a0, .inr (0, [.ref a1, .ref a2, .ref a3, .ref a4, .ref a5, .int (nI n)])), (a1, .inl (cA, 80, .inl (X 0))), (a2, .inl (cA, 80, .inl (X 1))), (a3, .inl (cA, 80, .inl (X 2))), (a4, .inl (cA, 80, .inl (X 3))), (a5, .inl (cA, 80, .inl (X 4)))] 0 0 (fun r _ => r = nI (cntB (fun j => vdB X n j k) n)) (fun _ => [(a0, .inr (0, [.ref a1, .ref a2, .ref a3, .ref a4, .ref a5, .int (nI n)])), (a1, .inl (cA, 80, .inl (X 0))), (a2, .inl (cA, 80, .inl (X 1))), (a3, .inl (cA, 80, .inl (X 2))), (a4, .inl (cA, 80, .inl (X 3))), (a5, .inl (cA, 80, .inl (X 4)))]) := by
  refine Ci.of (cc := c_A_voidsAsKnown) (nL := 4) (lv := [(0, .ref a0), (1, .int k)]) (by decide) rfl (Nat.le_of_ble_eq_true rfl) rfl ?_
  intro p e s m args below meth cd A Q F hK hN hA ret
  have h80 := hA0.1
  refine j_iconst (v := nI 0) F d_A_voidsAsKnown_0 (by decide) ?_
  refine j_istoren (lv' := [(2, .int (nI 0)), (0, .ref a0), (1, .int k)]) F d_A_voidsAsKnown_1 rfl (by decide) rfl ?_
  refine j_iconst (v := nI 0) F d_A_voidsAsKnown_2 (by decide) ?_
  refine j_istoren (lv' := [(3, .int (nI 0)), (2, .int (nI 0)), (0, .ref a0), (1, .int k)]) F d_A_voidsAsKnown_3 rfl (by decide) rfl ?_
  have loop4 : ∀ (fuel : Nat) (i : Nat) (hfuel4 : n - i < fuel) (hi : i ≤ n), J p l e rm_A_voidsAsKnown s m args below meth cd D vwCl A s.heap 4 0 0 Q [(a0, .inr (0, [.ref a1, .ref a2, .ref a3, .ref a4, .ref a5, .int (nI n)])), (a1, .inl (cA, 80, .inl (X 0))), (a2, .inl (cA, 80, .inl (X 1))), (a3, .inl (cA, 80, .inl (X 2))), (a4, .inl (cA, 80, .inl (X 3))), (a5, .inl (cA, 80, .inl (X 4)))] [(0, .ref a0), (1, .int k), (2, .int (nI (cntB (fun j => vdB X n j k) i))), (3, .int (nI i))] 4 [] := by
    intro fuel
    induction fuel with
    | zero => intro i hfuel; exact absurd hfuel (Nat.not_lt_zero _)
    | succ fuel ih4 =>
      intro i hfuel4 hi
      refine j_iloadn F d_A_voidsAsKnown_4 3 rfl rfl ?_
      refine j_aloadn F d_A_voidsAsKnown_5 0 rfl rfl ?_
      refine j_get (ci := 0) (v := .int (nI n)) F in_A hK 0 rfl rfl 5 (by decide) (wm k_47) rfl d_A_voidsAsKnown_6 ?_
      refine j_ic_ge (tgt := 30) F d_A_voidsAsKnown_9 (by decide) (fun c_9 => ?_) (fun c_9 => ?_)
      · have c_9 : n ≤ i := (nI_leI (by omega) (by omega)).mp c_9
        have hin : i = n := by omega
        subst hin
        refine j_iloadn F d_A_voidsAsKnown_30 2 rfl rfl ?_
        exact ret _ _ _ _ _ _ () d_A_voidsAsKnown_31 rfl (by decide) (by decide) rfl rfl
      · have c_9 : ¬ n ≤ i := fun h => c_9 ((nI_leI (by omega) (by omega)).mpr h)
        refine j_aloadn F d_A_voidsAsKnown_12 0 rfl rfl ?_
        refine j_iloadn F d_A_voidsAsKnown_13 3 rfl rfl ?_
        refine j_iloadn F d_A_voidsAsKnown_14 1 rfl rfl ?_
        refine j_goi (wc := [(a0, .inr (0, [.ref a1, .ref a2, .ref a3, .ref a4, .ref a5, .int (nI n)])), (a1, .inl (cA, 80, .inl (X 0))), (a2, .inl (cA, 80, .inl (X 1))), (a3, .inl (cA, 80, .inl (X 2))), (a4, .inl (cA, 80, .inl (X 3))), (a5, .inl (cA, 80, .inl (X 4)))]) (wr := []) hA [0, 1, 2, 3, 4, 5] [] rfl rfl (by decide) (by decide) (fun H locs ls hP hD hl => va_runV (As := [.int (nI i), .int k]) (rest := []) F (ct_A_isVoid l D cA a0 a1 a2 a3 a4 a5 X n hA0 i (by omega) k H.size) ⟨callB_of 2 F.2.2.2.2 (gd k_204) rfl rfl rfl (F.2.2.2.2 _ (wm k_2)) (F.2.2.2.2 _ (wm k_201)) (by decide +kernel) ⟨by decide, by decide⟩, F.2.2.2.2 _ (wm k_203), F.2.2.2.2 _ (wm ks_5)⟩ (pre_V rfl hK hN hP hD [0, 1, 2, 3, 4, 5] rfl (by decide) 0 rfl rfl) rfl rfl hl.1 rfl (lv_room (Nat.le_of_ble_eq_true rfl)) d_A_voidsAsKnown_15 ⟨by decide, by decide⟩) (fun r15 u15 hw15 => ?_)
        subst hw15
        refine j_ws (ws' := [(a0, .inr (0, [.ref a1, .ref a2, .ref a3, .ref a4, .ref a5, .int (nI n)])), (a1, .inl (cA, 80, .inl (X 0))), (a2, .inl (cA, 80, .inl (X 1))), (a3, .inl (cA, 80, .inl (X 2))), (a4, .inl (cA, 80, .inl (X 3))), (a5, .inl (cA, 80, .inl (X 4)))]) [0, 1, 2, 3, 4, 5] (by decide) rfl ?_
        refine j_if_eq (tgt := 24) F d_A_voidsAsKnown_18 (by decide) (fun c_18 => ?_) (fun c_18 => ?_)
        · have hb := bI_0 c_18
          have hc : cntB (fun j => vdB X n j k) (i + 1) = cntB (fun j => vdB X n j k) i := by show _ + cond (vdB X n i k) 1 0 = _; rw [hb]; rfl
          rw [← hc]
          refine j_iinc (v := nI (i + 1)) (lv' := [(3, .int (nI (i + 1))), (0, .ref a0), (1, .int k), (2, .int (nI (cntB (fun j => vdB X n j k) (i + 1))))]) F d_A_voidsAsKnown_24 3 rfl (jn_inc i) (by decide) rfl ?_
          refine j_goto (tgt := 4) F d_A_voidsAsKnown_27 (by decide) ?_
          refine j_lv (lv' := [(0, .ref a0), (1, .int k), (2, .int (nI (cntB (fun j => vdB X n j k) (i + 1)))), (3, .int (nI (i + 1)))]) [1, 2, 3, 0] rfl ?_
          exact ih4 (i + 1) (by omega) (by omega)
        · have hb := bI_1 c_18
          have hc : cntB (fun j => vdB X n j k) (i + 1) = cntB (fun j => vdB X n j k) i + 1 := by show _ + cond (vdB X n i k) 1 0 = _; rw [hb]; rfl
          refine j_iinc (v := nI (cntB (fun j => vdB X n j k) (i + 1))) (lv' := [(2, .int (nI (cntB (fun j => vdB X n j k) (i + 1)))), (0, .ref a0), (1, .int k), (3, .int (nI i))]) F d_A_voidsAsKnown_21 2 rfl (by rw [hc]; exact jn_inc _) (by decide) rfl ?_
          refine j_iinc (v := nI (i + 1)) (lv' := [(3, .int (nI (i + 1))), (2, .int (nI (cntB (fun j => vdB X n j k) (i + 1)))), (0, .ref a0), (1, .int k)]) F d_A_voidsAsKnown_24 3 rfl (jn_inc i) (by decide) rfl ?_
          refine j_goto (tgt := 4) F d_A_voidsAsKnown_27 (by decide) ?_
          refine j_lv (lv' := [(0, .ref a0), (1, .int k), (2, .int (nI (cntB (fun j => vdB X n j k) (i + 1)))), (3, .int (nI (i + 1)))]) [2, 3, 1, 0] rfl ?_
          exact ih4 (i + 1) (by omega) (by omega)
  refine j_lv (lv' := [(0, .ref a0), (1, .int k), (2, .int (nI 0)), (3, .int (nI 0))]) [2, 3, 1, 0] rfl ?_
  exact loop4 (n + 1) 0 (by omega) (by omega)

def rm_A_holds : Room := { frames := 1, cells := 0, slots := 0, locals := 23 }
set_option maxHeartbeats 4000000 in
set_option maxRecDepth 100000 in
theorem ct_A_holds (l : Launch) (D : va_G) (cA : ClassId) (a0 a1 a2 a3 a4 a5 : Nat) (X : AF) (n : Nat) (hA0 : aok X n) (e0 : Nat) (he0 : e0 < n) (t k : Int32) : Ci (S := Unit) l y_A_holds (Cond.code y_A_holds c_A_holds 4 (some .boolean) :: WD) rm_A_holds D vwCl [(cA, .int)] nws [.ref a0, .int (nI e0), .int t, .int k] [(a0, .inr (0, [.ref a1, .ref a2, .ref a3, .ref a4, .ref a5, .int (nI n)])), (a1, .inl (cA, 80, .inl (X 0))), (a2, .inl (cA, 80, .inl (X 1))), (a3, .inl (cA, 80, .inl (X 2))), (a4, .inl (cA, 80, .inl (X 3))), (a5, .inl (cA, 80, .inl (X 4)))] 0 0 (fun r _ => r = bI (hdB X n t k e0)) (fun _ => [(a0, .inr (0, [.ref a1, .ref a2, .ref a3, .ref a4, .ref a5, .int (nI n)])), (a1, .inl (cA, 80, .inl (X 0))), (a2, .inl (cA, 80, .inl (X 1))), (a3, .inl (cA, 80, .inl (X 2))), (a4, .inl (cA, 80, .inl (X 3))), (a5, .inl (cA, 80, .inl (X 4)))]) := by
  refine Ci.of (cc := c_A_holds) (nL := 4) (lv := [(0, .ref a0), (1, .int (nI e0)), (2, .int t), (3, .int k)]) (by decide) rfl (Nat.le_of_ble_eq_true rfl) rfl ?_
  intro p e s m args below meth cd A Q F hK hN hA ret
  have h80 := hA0.1
  refine j_aloadn F d_A_holds_0 0 rfl rfl ?_
  refine j_get (ci := 0) (v := .ref a1) F in_A hK 0 rfl rfl 0 (by decide) (wm k_30) rfl d_A_holds_1 ?_
  refine j_iloadn F d_A_holds_4 1 rfl rfl ?_
  refine j_iald (v := (X 0) e0) F hK 1 0 rfl rfl (by omega) (by decide) d_A_holds_5 rfl ?_
  refine j_iconst (v := nI 5) F d_A_holds_6 (by decide) ?_
  refine j_ic_eq (tgt := 43) F d_A_holds_7 (by decide) (fun c_7 => ?_) (fun c_7 => ?_)
  · refine j_iconst (v := nI 0) F d_A_holds_43 (by decide) ?_
    exact ret _ _ _ _ _ _ () d_A_holds_44 rfl (by decide) (by decide) rfl (bI_f (by unfold hdB; rw [decide_eq_true c_7]; rfl))
  · refine j_aloadn F d_A_holds_10 0 rfl rfl ?_
    refine j_get (ci := 0) (v := .ref a4) F in_A hK 0 rfl rfl 3 (by decide) (wm k_42) rfl d_A_holds_11 ?_
    refine j_iloadn F d_A_holds_14 1 rfl rfl ?_
    refine j_iald (v := (X 3) e0) F hK 4 0 rfl rfl (by omega) (by decide) d_A_holds_15 rfl ?_
    refine j_iloadn F d_A_holds_16 2 rfl rfl ?_
    refine j_ic_gt (tgt := 43) F d_A_holds_17 (by decide) (fun c_17 => ?_) (fun c_17 => ?_)
    · refine j_iconst (v := nI 0) F d_A_holds_43 (by decide) ?_
      exact ret _ _ _ _ _ _ () d_A_holds_44 rfl (by decide) (by decide) rfl (bI_f (by unfold hdB; rw [decide_eq_false (fun h => jn_no c_17 h), Bool.false_and, Bool.and_false]))
    · refine j_aloadn F d_A_holds_20 0 rfl rfl ?_
      refine j_get (ci := 0) (v := .ref a5) F in_A hK 0 rfl rfl 4 (by decide) (wm k_45) rfl d_A_holds_21 ?_
      refine j_iloadn F d_A_holds_24 1 rfl rfl ?_
      refine j_iald (v := (X 4) e0) F hK 5 0 rfl rfl (by omega) (by decide) d_A_holds_25 rfl ?_
      refine j_iloadn F d_A_holds_26 3 rfl rfl ?_
      refine j_ic_gt (tgt := 43) F d_A_holds_27 (by decide) (fun c_27 => ?_) (fun c_27 => ?_)
      · refine j_iconst (v := nI 0) F d_A_holds_43 (by decide) ?_
        exact ret _ _ _ _ _ _ () d_A_holds_44 rfl (by decide) (by decide) rfl (bI_f (by unfold hdB; rw [decide_eq_false (p := X 4 e0 ≤ k) (fun h => jn_no c_27 h), Bool.false_and, Bool.and_false, Bool.and_false]))
      · refine j_aloadn F d_A_holds_30 0 rfl rfl ?_
        refine j_iloadn F d_A_holds_31 1 rfl rfl ?_
        refine j_iloadn F d_A_holds_32 3 rfl rfl ?_
        refine j_goi (wc := [(a0, .inr (0, [.ref a1, .ref a2, .ref a3, .ref a4, .ref a5, .int (nI n)])), (a1, .inl (cA, 80, .inl (X 0))), (a2, .inl (cA, 80, .inl (X 1))), (a3, .inl (cA, 80, .inl (X 2))), (a4, .inl (cA, 80, .inl (X 3))), (a5, .inl (cA, 80, .inl (X 4)))]) (wr := []) hA [0, 1, 2, 3, 4, 5] [] rfl rfl (by decide) (by decide) (fun H locs ls hP hD hl => va_runV (As := [.int (nI e0), .int k]) (rest := []) F (ct_A_isVoid l D cA a0 a1 a2 a3 a4 a5 X n hA0 e0 (by omega) k H.size) ⟨callB_of 2 F.2.2.2.2 (gd k_204) rfl rfl rfl (F.2.2.2.2 _ (wm k_2)) (F.2.2.2.2 _ (wm k_201)) (by decide +kernel) ⟨by decide, by decide⟩, F.2.2.2.2 _ (wm k_203), F.2.2.2.2 _ (wm ks_5)⟩ (pre_V rfl hK hN hP hD [0, 1, 2, 3, 4, 5] rfl (by decide) 0 rfl rfl) rfl rfl hl.1 rfl (lv_room (Nat.le_of_ble_eq_true rfl)) d_A_holds_33 ⟨by decide, by decide⟩) (fun r33 u33 hw33 => ?_)
        subst hw33
        refine j_ws (ws' := [(a0, .inr (0, [.ref a1, .ref a2, .ref a3, .ref a4, .ref a5, .int (nI n)])), (a1, .inl (cA, 80, .inl (X 0))), (a2, .inl (cA, 80, .inl (X 1))), (a3, .inl (cA, 80, .inl (X 2))), (a4, .inl (cA, 80, .inl (X 3))), (a5, .inl (cA, 80, .inl (X 4)))]) [0, 1, 2, 3, 4, 5] (by decide) rfl ?_
        refine j_if_ne (tgt := 43) F d_A_holds_36 (by decide) (fun c_36 => ?_) (fun c_36 => ?_)
        · refine j_iconst (v := nI 0) F d_A_holds_43 (by decide) ?_
          exact ret _ _ _ _ _ _ () d_A_holds_44 rfl (by decide) (by decide) rfl (bI_f (by unfold hdB; rw [bI_1 c_36, Bool.not_true, Bool.and_false, Bool.and_false, Bool.and_false]))
        · refine j_iconst (v := nI 1) F d_A_holds_39 (by decide) ?_
          refine j_goto (tgt := 44) F d_A_holds_40 (by decide) ?_
          exact ret _ _ _ _ _ _ () d_A_holds_44 rfl (by decide) (by decide) rfl (bI_t (by unfold hdB; rw [decide_eq_false c_7, decide_eq_true (jn_nlt c_17), decide_eq_true (jn_nlt c_27), bI_0 c_36]; rfl))

def rm_A_goesAhead : Room := { frames := 0, cells := 0, slots := 0, locals := 0 }
set_option maxHeartbeats 4000000 in
set_option maxRecDepth 100000 in
theorem ct_A_goesAhead (l : Launch) (D : va_G) (cA : ClassId) (a0 a1 a2 a3 a4 a5 : Nat) (X : AF) (n : Nat) (hn : n ≤ 80) (x y : Nat) (hx : x < n) (hy : y < n) : Ci (S := Unit) l y_A_goesAhead (Cond.code y_A_goesAhead c_A_goesAhead 3 (some .boolean) :: WD) rm_A_goesAhead D vwCl [(cA, .int)] nws [.ref a0, .int (nI x), .int (nI y)] [(a0, .inr (0, [.ref a1, .ref a2, .ref a3, .ref a4, .ref a5, .int (nI n)])), (a1, .inl (cA, 80, .inl (X 0))), (a2, .inl (cA, 80, .inl (X 1))), (a3, .inl (cA, 80, .inl (X 2))), (a4, .inl (cA, 80, .inl (X 3))), (a5, .inl (cA, 80, .inl (X 4)))] 0 0 (fun r _ => r = bI (ahB X x y)) (fun _ => [(a0, .inr (0, [.ref a1, .ref a2, .ref a3, .ref a4, .ref a5, .int (nI n)])), (a1, .inl (cA, 80, .inl (X 0))), (a2, .inl (cA, 80, .inl (X 1))), (a3, .inl (cA, 80, .inl (X 2))), (a4, .inl (cA, 80, .inl (X 3))), (a5, .inl (cA, 80, .inl (X 4)))]) := by
  refine Ci.of (cc := c_A_goesAhead) (nL := 3) (lv := [(0, .ref a0), (1, .int (nI x)), (2, .int (nI y))]) (by decide) rfl (Nat.le_of_ble_eq_true rfl) rfl ?_
  intro p e s m args below meth cd A Q F hK hN hA ret
  refine j_aloadn F d_A_goesAhead_0 0 rfl rfl ?_
  refine j_get (ci := 0) (v := .ref a4) F in_A hK 0 rfl rfl 3 (by decide) (wm k_42) rfl d_A_goesAhead_1 ?_
  refine j_iloadn F d_A_goesAhead_4 1 rfl rfl ?_
  refine j_iald (v := (X 3) x) F hK 4 0 rfl rfl (by omega) (by decide) d_A_goesAhead_5 rfl ?_
  refine j_aloadn F d_A_goesAhead_6 0 rfl rfl ?_
  refine j_get (ci := 0) (v := .ref a4) F in_A hK 0 rfl rfl 3 (by decide) (wm k_42) rfl d_A_goesAhead_7 ?_
  refine j_iloadn F d_A_goesAhead_10 2 rfl rfl ?_
  refine j_iald (v := (X 3) y) F hK 4 0 rfl rfl (by omega) (by decide) d_A_goesAhead_11 rfl ?_
  refine j_ic_eq (tgt := 36) F d_A_goesAhead_12 (by decide) (fun c_12 => ?_) (fun c_12 => ?_)
  · refine j_aloadn F d_A_goesAhead_36 0 rfl rfl ?_
    refine j_get (ci := 0) (v := .ref a1) F in_A hK 0 rfl rfl 0 (by decide) (wm k_30) rfl d_A_goesAhead_37 ?_
    refine j_iloadn F d_A_goesAhead_40 1 rfl rfl ?_
    refine j_iald (v := (X 0) x) F hK 1 0 rfl rfl (by omega) (by decide) d_A_goesAhead_41 rfl ?_
    refine j_aloadn F d_A_goesAhead_42 0 rfl rfl ?_
    refine j_get (ci := 0) (v := .ref a1) F in_A hK 0 rfl rfl 0 (by decide) (wm k_30) rfl d_A_goesAhead_43 ?_
    refine j_iloadn F d_A_goesAhead_46 2 rfl rfl ?_
    refine j_iald (v := (X 0) y) F hK 1 0 rfl rfl (by omega) (by decide) d_A_goesAhead_47 rfl ?_
    refine j_ic_ge (tgt := 55) F d_A_goesAhead_48 (by decide) (fun c_48 => ?_) (fun c_48 => ?_)
    · refine j_iconst (v := nI 0) F d_A_goesAhead_55 (by decide) ?_
      exact ret _ _ _ _ _ _ () d_A_goesAhead_56 rfl (by decide) (by decide) rfl (bI_f (by unfold ahB; rw [if_pos c_12]; exact decide_eq_false (fun h => jn_no h c_48)))
    · refine j_iconst (v := nI 1) F d_A_goesAhead_51 (by decide) ?_
      refine j_goto (tgt := 56) F d_A_goesAhead_52 (by decide) ?_
      exact ret _ _ _ _ _ _ () d_A_goesAhead_56 rfl (by decide) (by decide) rfl (bI_t (by unfold ahB; rw [if_pos c_12]; exact decide_eq_true (jn_nle c_48)))
  · refine j_aloadn F d_A_goesAhead_15 0 rfl rfl ?_
    refine j_get (ci := 0) (v := .ref a4) F in_A hK 0 rfl rfl 3 (by decide) (wm k_42) rfl d_A_goesAhead_16 ?_
    refine j_iloadn F d_A_goesAhead_19 1 rfl rfl ?_
    refine j_iald (v := (X 3) x) F hK 4 0 rfl rfl (by omega) (by decide) d_A_goesAhead_20 rfl ?_
    refine j_aloadn F d_A_goesAhead_21 0 rfl rfl ?_
    refine j_get (ci := 0) (v := .ref a4) F in_A hK 0 rfl rfl 3 (by decide) (wm k_42) rfl d_A_goesAhead_22 ?_
    refine j_iloadn F d_A_goesAhead_25 2 rfl rfl ?_
    refine j_iald (v := (X 3) y) F hK 4 0 rfl rfl (by omega) (by decide) d_A_goesAhead_26 rfl ?_
    refine j_ic_ge (tgt := 34) F d_A_goesAhead_27 (by decide) (fun c_27 => ?_) (fun c_27 => ?_)
    · refine j_iconst (v := nI 0) F d_A_goesAhead_34 (by decide) ?_
      exact ret _ _ _ _ _ _ () d_A_goesAhead_35 rfl (by decide) (by decide) rfl (bI_f (by unfold ahB; rw [if_neg c_12]; exact decide_eq_false (fun h => jn_no h c_27)))
    · refine j_iconst (v := nI 1) F d_A_goesAhead_30 (by decide) ?_
      refine j_goto (tgt := 35) F d_A_goesAhead_31 (by decide) ?_
      exact ret _ _ _ _ _ _ () d_A_goesAhead_35 rfl (by decide) (by decide) rfl (bI_t (by unfold ahB; rw [if_neg c_12]; exact decide_eq_true (jn_nle c_27)))
