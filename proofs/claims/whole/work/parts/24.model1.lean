def rm_M_thrown : Room := { frames := 0, cells := 0, slots := 0, locals := 0 }
set_option maxHeartbeats 4000000 in
set_option maxRecDepth 100000 in
theorem ct_M_thrown (l : Launch) (D : va_G) (cA : ClassId) (m0 m1 m2 m3 m4 m5 m6 m7 m8 m9 m10 : Nat) (th now : Int32) (n : Nat) (rf : Int32) (X : AF) (sl tt sm hs lt : Nat → Int32) (hA0 : aok X n) : Ci (S := Unit) l y_M_thrown (Cond.code y_M_thrown c_M_thrown 1 (some .int) :: WD) rm_M_thrown D vwCl [(cA, .int)] nws [.ref m0] [(m0, .inr (6, [.int th, .int now, .int (nI n), .int rf, .ref m1, .ref m2, .ref m3, .ref m4, .ref m5, .ref m6, .ref m7, .ref m8, .ref m9, .ref m10])), (m1, .inl (cA, 80, .inl (X 0))), (m2, .inl (cA, 80, .inl (X 1))), (m3, .inl (cA, 80, .inl (X 2))), (m4, .inl (cA, 80, .inl (X 3))), (m5, .inl (cA, 80, .inl (X 4))), (m6, .inl (cA, 20, .inl sl)), (m7, .inl (cA, 10, .inl tt)), (m8, .inl (cA, 10, .inl sm)), (m9, .inl (cA, 10, .inl hs)), (m10, .inl (cA, 64, .inl lt))] 0 0 (fun r _ => r = th) (fun _ => [(m0, .inr (6, [.int th, .int now, .int (nI n), .int rf, .ref m1, .ref m2, .ref m3, .ref m4, .ref m5, .ref m6, .ref m7, .ref m8, .ref m9, .ref m10])), (m1, .inl (cA, 80, .inl (X 0))), (m2, .inl (cA, 80, .inl (X 1))), (m3, .inl (cA, 80, .inl (X 2))), (m4, .inl (cA, 80, .inl (X 3))), (m5, .inl (cA, 80, .inl (X 4))), (m6, .inl (cA, 20, .inl sl)), (m7, .inl (cA, 10, .inl tt)), (m8, .inl (cA, 10, .inl sm)), (m9, .inl (cA, 10, .inl hs)), (m10, .inl (cA, 64, .inl lt))]) := by
  refine Ci.of (cc := c_M_thrown) (nL := 1) (lv := [(0, .ref m0)]) (by decide) rfl (Nat.le_of_ble_eq_true rfl) rfl ?_
  intro p e s m args below meth cd A Q F hK hN hA ret
  refine j_aloadn F d_M_thrown_0 0 rfl rfl ?_
  refine j_get (ci := 6) (v := .int th) F in_M hK 0 rfl rfl 0 (by decide) (wm k_466) rfl d_M_thrown_1 ?_
  exact ret _ _ _ _ _ _ () d_M_thrown_4 rfl (by decide) (by decide) rfl rfl

def rm_M_refuse : Room := { frames := 0, cells := 0, slots := 0, locals := 0 }
set_option maxHeartbeats 4000000 in
set_option maxRecDepth 100000 in
theorem ct_M_refuse (l : Launch) (D : va_G) (cA : ClassId) (m0 m1 m2 m3 m4 m5 m6 m7 m8 m9 m10 : Nat) (th now : Int32) (n : Nat) (rf : Int32) (X : AF) (sl tt sm hs lt : Nat → Int32) (hA0 : aok X n) (y : Int32) : Ci (S := Unit) l y_M_refuse (Cond.code y_M_refuse c_M_refuse 2 (some .int) :: WD) rm_M_refuse D vwCl [(cA, .int)] nws [.ref m0, .int y] [(m0, .inr (6, [.int th, .int now, .int (nI n), .int rf, .ref m1, .ref m2, .ref m3, .ref m4, .ref m5, .ref m6, .ref m7, .ref m8, .ref m9, .ref m10])), (m1, .inl (cA, 80, .inl (X 0))), (m2, .inl (cA, 80, .inl (X 1))), (m3, .inl (cA, 80, .inl (X 2))), (m4, .inl (cA, 80, .inl (X 3))), (m5, .inl (cA, 80, .inl (X 4))), (m6, .inl (cA, 20, .inl sl)), (m7, .inl (cA, 10, .inl tt)), (m8, .inl (cA, 10, .inl sm)), (m9, .inl (cA, 10, .inl hs)), (m10, .inl (cA, 64, .inl lt))] 0 0 (fun r _ => r = nI 0) (fun _ => [(m0, .inr (6, [.int y, .int now, .int (nI n), .int rf, .ref m1, .ref m2, .ref m3, .ref m4, .ref m5, .ref m6, .ref m7, .ref m8, .ref m9, .ref m10])), (m1, .inl (cA, 80, .inl (X 0))), (m2, .inl (cA, 80, .inl (X 1))), (m3, .inl (cA, 80, .inl (X 2))), (m4, .inl (cA, 80, .inl (X 3))), (m5, .inl (cA, 80, .inl (X 4))), (m6, .inl (cA, 20, .inl sl)), (m7, .inl (cA, 10, .inl tt)), (m8, .inl (cA, 10, .inl sm)), (m9, .inl (cA, 10, .inl hs)), (m10, .inl (cA, 64, .inl lt))]) := by
  refine Ci.of (cc := c_M_refuse) (nL := 2) (lv := [(0, .ref m0), (1, .int y)]) (by decide) rfl (Nat.le_of_ble_eq_true rfl) rfl ?_
  intro p e s m args below meth cd A Q F hK hN hA ret
  refine j_aloadn F d_M_refuse_0 0 rfl rfl ?_
  refine j_iloadn F d_M_refuse_1 1 rfl rfl ?_
  refine j_put (ci := 6) (v := .int y) (ty := .int) (ws' := [(m0, .inr (6, [.int y, .int now, .int (nI n), .int rf, .ref m1, .ref m2, .ref m3, .ref m4, .ref m5, .ref m6, .ref m7, .ref m8, .ref m9, .ref m10])), (m1, .inl (cA, 80, .inl (X 0))), (m2, .inl (cA, 80, .inl (X 1))), (m3, .inl (cA, 80, .inl (X 2))), (m4, .inl (cA, 80, .inl (X 3))), (m5, .inl (cA, 80, .inl (X 4))), (m6, .inl (cA, 20, .inl sl)), (m7, .inl (cA, 10, .inl tt)), (m8, .inl (cA, 10, .inl sm)), (m9, .inl (cA, 10, .inl hs)), (m10, .inl (cA, 64, .inl lt))]) F in_M ty_M tk_M nm_M hK 0 rfl rfl 0 (by decide) (wm k_466) rfl (by decide +kernel) rfl rfl (Nat.le_of_ble_eq_true rfl) d_M_refuse_2 rfl ?_
  refine j_iconst (v := nI 0) F d_M_refuse_5 (by decide) ?_
  exact ret _ _ _ _ _ _ () d_M_refuse_6 rfl (by decide) (by decide) rfl rfl

def rm_M_in : Room := { frames := 0, cells := 0, slots := 0, locals := 0 }
set_option maxHeartbeats 4000000 in
set_option maxRecDepth 100000 in
theorem ct_M_in (l : Launch) (D : va_G) (cA : ClassId) (x lo hi : Int32) : Ci (S := Unit) l y_M_in (Cond.code y_M_in c_M_in 3 (some .boolean) :: WD) rm_M_in D vwCl [(cA, .int)] nws [.int x, .int lo, .int hi] [] 0 0 (fun r _ => r = bI (win x lo hi)) (fun _ => []) := by
  refine Ci.of (cc := c_M_in) (nL := 3) (lv := [(0, .int x), (1, .int lo), (2, .int hi)]) (by decide) rfl (Nat.le_of_ble_eq_true rfl) rfl ?_
  intro p e s m args below meth cd A Q F hK hN hA ret
  refine j_iloadn F d_M_in_0 0 rfl rfl ?_
  refine j_iloadn F d_M_in_1 1 rfl rfl ?_
  refine j_ic_lt (tgt := 14) F d_M_in_2 (by decide) (fun c_2 => ?_) (fun c_2 => ?_)
  · refine j_iconst (v := nI 0) F d_M_in_14 (by decide) ?_
    exact ret _ _ _ _ _ _ () d_M_in_15 rfl (by decide) (by decide) rfl (bI_f (by unfold win; rw [decide_eq_false (fun h => jn_no c_2 h)]; rfl))
  · refine j_iloadn F d_M_in_5 0 rfl rfl ?_
    refine j_iloadn F d_M_in_6 2 rfl rfl ?_
    refine j_ic_gt (tgt := 14) F d_M_in_7 (by decide) (fun c_7 => ?_) (fun c_7 => ?_)
    · refine j_iconst (v := nI 0) F d_M_in_14 (by decide) ?_
      exact ret _ _ _ _ _ _ () d_M_in_15 rfl (by decide) (by decide) rfl (bI_f (by unfold win; rw [decide_eq_false (fun h => jn_no c_7 h), Bool.and_false]))
    · refine j_iconst (v := nI 1) F d_M_in_10 (by decide) ?_
      refine j_goto (tgt := 15) F d_M_in_11 (by decide) ?_
      exact ret _ _ _ _ _ _ () d_M_in_15 rfl (by decide) (by decide) rfl (bI_t (by unfold win; rw [decide_eq_true (jn_nlt c_2), decide_eq_true (jn_nlt c_7)]; rfl))

def rm_M_isTime : Room := { frames := 0, cells := 0, slots := 0, locals := 0 }
set_option maxHeartbeats 4000000 in
set_option maxRecDepth 100000 in
theorem ct_M_isTime (l : Launch) (D : va_G) (cA : ClassId) (x : Int32) : Ci (S := Unit) l y_M_isTime (Cond.code y_M_isTime c_M_isTime 1 (some .boolean) :: WD) rm_M_isTime D vwCl [(cA, .int)] nws [.int x] [] 0 0 (fun r _ => r = bI (win x (nI 0) (nI 10000))) (fun _ => []) := by
  refine Ci.of (cc := c_M_isTime) (nL := 1) (lv := [(0, .int x)]) (by decide) rfl (Nat.le_of_ble_eq_true rfl) rfl ?_
  intro p e s m args below meth cd A Q F hK hN hA ret
  refine j_iloadn F d_M_isTime_0 0 rfl rfl ?_
  refine j_if_lt (tgt := 15) F d_M_isTime_1 (by decide) (fun c_1 => ?_) (fun c_1 => ?_)
  · refine j_iconst (v := nI 0) F d_M_isTime_15 (by decide) ?_
    exact ret _ _ _ _ _ _ () d_M_isTime_16 rfl (by decide) (by decide) rfl (bI_f (by unfold win; rw [decide_eq_false (fun h => jn_no c_1 h)]; rfl))
  · refine j_iloadn F d_M_isTime_4 0 rfl rfl ?_
    refine j_sipush (v := nI 10000) F d_M_isTime_5 (by decide) ?_
    refine j_ic_gt (tgt := 15) F d_M_isTime_8 (by decide) (fun c_8 => ?_) (fun c_8 => ?_)
    · refine j_iconst (v := nI 0) F d_M_isTime_15 (by decide) ?_
      exact ret _ _ _ _ _ _ () d_M_isTime_16 rfl (by decide) (by decide) rfl (bI_f (by unfold win; rw [decide_eq_false (fun h => jn_no c_8 h), Bool.and_false]))
    · refine j_iconst (v := nI 1) F d_M_isTime_11 (by decide) ?_
      refine j_goto (tgt := 16) F d_M_isTime_12 (by decide) ?_
      exact ret _ _ _ _ _ _ () d_M_isTime_16 rfl (by decide) (by decide) rfl (bI_t (by unfold win; rw [decide_eq_true (jn_nlt c_1), decide_eq_true (jn_nlt c_8)]; rfl))

def rm_M_fits : Room := { frames := 1, cells := 0, slots := 0, locals := 22 }
set_option maxHeartbeats 4000000 in
set_option maxRecDepth 100000 in
theorem ct_M_fits (l : Launch) (D : va_G) (cA : ClassId) (m0 m1 m2 m3 m4 m5 m6 m7 m8 m9 m10 : Nat) (th now : Int32) (n : Nat) (rf : Int32) (X : AF) (sl tt sm hs lt : Nat → Int32) (hA0 : aok X n) (kd a b : Int32) : Ci (S := Unit) l y_M_fits (Cond.code y_M_fits c_M_fits 4 (some .boolean) :: WD) rm_M_fits D vwCl [(cA, .int)] nws [.ref m0, .int kd, .int a, .int b] [(m0, .inr (6, [.int th, .int now, .int (nI n), .int rf, .ref m1, .ref m2, .ref m3, .ref m4, .ref m5, .ref m6, .ref m7, .ref m8, .ref m9, .ref m10])), (m1, .inl (cA, 80, .inl (X 0))), (m2, .inl (cA, 80, .inl (X 1))), (m3, .inl (cA, 80, .inl (X 2))), (m4, .inl (cA, 80, .inl (X 3))), (m5, .inl (cA, 80, .inl (X 4))), (m6, .inl (cA, 20, .inl sl)), (m7, .inl (cA, 10, .inl tt)), (m8, .inl (cA, 10, .inl sm)), (m9, .inl (cA, 10, .inl hs)), (m10, .inl (cA, 64, .inl lt))] 0 0 (fun r _ => r = bI (tellB X n kd a b)) (fun _ => [(m0, .inr (6, [.int th, .int now, .int (nI n), .int rf, .ref m1, .ref m2, .ref m3, .ref m4, .ref m5, .ref m6, .ref m7, .ref m8, .ref m9, .ref m10])), (m1, .inl (cA, 80, .inl (X 0))), (m2, .inl (cA, 80, .inl (X 1))), (m3, .inl (cA, 80, .inl (X 2))), (m4, .inl (cA, 80, .inl (X 3))), (m5, .inl (cA, 80, .inl (X 4))), (m6, .inl (cA, 20, .inl sl)), (m7, .inl (cA, 10, .inl tt)), (m8, .inl (cA, 10, .inl sm)), (m9, .inl (cA, 10, .inl hs)), (m10, .inl (cA, 64, .inl lt))]) := by
  refine Ci.of (cc := c_M_fits) (nL := 4) (lv := [(0, .ref m0), (1, .int kd), (2, .int a), (3, .int b)]) (by decide) rfl (Nat.le_of_ble_eq_true rfl) rfl ?_
  intro p e s m args below meth cd A Q F hK hN hA ret
  have h80 := hA0.1
  refine j_iloadn F d_M_fits_0 1 rfl rfl ?_
  have sw := jn_sw5 kd
  rcases sw with hz | hz | hz | hz | hz | hz | hz
  · refine j_tabIn (tgt := 40) F d_M_fits_1 0 hz.1 (by decide) (by decide) rfl (by decide) ?_
    refine j_iloadn F d_M_fits_40 2 rfl rfl ?_
    refine j_iconst (v := nI 0) F d_M_fits_41 (by decide) ?_
    refine j_bipush (v := nI 19) F d_M_fits_42 (by decide) ?_
    refine j_goi (wc := []) (wr := [(m0, .inr (6, [.int th, .int now, .int (nI n), .int rf, .ref m1, .ref m2, .ref m3, .ref m4, .ref m5, .ref m6, .ref m7, .ref m8, .ref m9, .ref m10])), (m1, .inl (cA, 80, .inl (X 0))), (m2, .inl (cA, 80, .inl (X 1))), (m3, .inl (cA, 80, .inl (X 2))), (m4, .inl (cA, 80, .inl (X 3))), (m5, .inl (cA, 80, .inl (X 4))), (m6, .inl (cA, 20, .inl sl)), (m7, .inl (cA, 10, .inl tt)), (m8, .inl (cA, 10, .inl sm)), (m9, .inl (cA, 10, .inl hs)), (m10, .inl (cA, 64, .inl lt))]) hA [] [0, 1, 2, 3, 4, 5, 6, 7, 8, 9, 10] rfl rfl (by decide) (by decide) (fun H locs ls hP hD hl => va_runS (As := [.int a, .int (nI 0), .int (nI 19)]) (rest := []) F (ct_M_in l D cA a (nI 0) (nI 19) H.size) ⟨callB_of 3 F.2.2.2.2 (gd k_523) rfl rfl rfl (F.2.2.2.2 _ (wm k_7)) (F.2.2.2.2 _ (wm k_521)) (by decide +kernel) ⟨by decide, by decide⟩, F.2.2.2.2 _ (wm k_522)⟩ (pre_S hK hN hP hD [] rfl (by decide)) rfl rfl hl.1 rfl (lv_room (Nat.le_of_ble_eq_true rfl)) d_M_fits_44 ⟨by decide, by decide⟩) (fun r44 u44 hw44 => ?_)
    subst hw44
    refine j_ws (ws' := [(m0, .inr (6, [.int th, .int now, .int (nI n), .int rf, .ref m1, .ref m2, .ref m3, .ref m4, .ref m5, .ref m6, .ref m7, .ref m8, .ref m9, .ref m10])), (m1, .inl (cA, 80, .inl (X 0))), (m2, .inl (cA, 80, .inl (X 1))), (m3, .inl (cA, 80, .inl (X 2))), (m4, .inl (cA, 80, .inl (X 3))), (m5, .inl (cA, 80, .inl (X 4))), (m6, .inl (cA, 20, .inl sl)), (m7, .inl (cA, 10, .inl tt)), (m8, .inl (cA, 10, .inl sm)), (m9, .inl (cA, 10, .inl hs)), (m10, .inl (cA, 64, .inl lt))]) [0, 1, 2, 3, 4, 5, 6, 7, 8, 9, 10] (by decide) rfl ?_
    refine j_if_eq (tgt := 64) F d_M_fits_47 (by decide) (fun c_47 => ?_) (fun c_47 => ?_)
    · refine j_iconst (v := nI 0) F d_M_fits_64 (by decide) ?_
      exact ret _ _ _ _ _ _ () d_M_fits_65 rfl (by decide) (by decide) rfl (bI_f (by rw [tell0 hz.2, bI_0 c_47]; rfl))
    · refine j_iloadn F d_M_fits_50 3 rfl rfl ?_
      refine j_iconst (v := nI 0) F d_M_fits_51 (by decide) ?_
      refine j_bipush (v := nI 99) F d_M_fits_52 (by decide) ?_
      refine j_goi (wc := []) (wr := [(m0, .inr (6, [.int th, .int now, .int (nI n), .int rf, .ref m1, .ref m2, .ref m3, .ref m4, .ref m5, .ref m6, .ref m7, .ref m8, .ref m9, .ref m10])), (m1, .inl (cA, 80, .inl (X 0))), (m2, .inl (cA, 80, .inl (X 1))), (m3, .inl (cA, 80, .inl (X 2))), (m4, .inl (cA, 80, .inl (X 3))), (m5, .inl (cA, 80, .inl (X 4))), (m6, .inl (cA, 20, .inl sl)), (m7, .inl (cA, 10, .inl tt)), (m8, .inl (cA, 10, .inl sm)), (m9, .inl (cA, 10, .inl hs)), (m10, .inl (cA, 64, .inl lt))]) hA [] [0, 1, 2, 3, 4, 5, 6, 7, 8, 9, 10] rfl rfl (by decide) (by decide) (fun H locs ls hP hD hl => va_runS (As := [.int b, .int (nI 0), .int (nI 99)]) (rest := []) F (ct_M_in l D cA b (nI 0) (nI 99) H.size) ⟨callB_of 3 F.2.2.2.2 (gd k_523) rfl rfl rfl (F.2.2.2.2 _ (wm k_7)) (F.2.2.2.2 _ (wm k_521)) (by decide +kernel) ⟨by decide, by decide⟩, F.2.2.2.2 _ (wm k_522)⟩ (pre_S hK hN hP hD [] rfl (by decide)) rfl rfl hl.1 rfl (lv_room (Nat.le_of_ble_eq_true rfl)) d_M_fits_54 ⟨by decide, by decide⟩) (fun r54 u54 hw54 => ?_)
      subst hw54
      refine j_ws (ws' := [(m0, .inr (6, [.int th, .int now, .int (nI n), .int rf, .ref m1, .ref m2, .ref m3, .ref m4, .ref m5, .ref m6, .ref m7, .ref m8, .ref m9, .ref m10])), (m1, .inl (cA, 80, .inl (X 0))), (m2, .inl (cA, 80, .inl (X 1))), (m3, .inl (cA, 80, .inl (X 2))), (m4, .inl (cA, 80, .inl (X 3))), (m5, .inl (cA, 80, .inl (X 4))), (m6, .inl (cA, 20, .inl sl)), (m7, .inl (cA, 10, .inl tt)), (m8, .inl (cA, 10, .inl sm)), (m9, .inl (cA, 10, .inl hs)), (m10, .inl (cA, 64, .inl lt))]) [0, 1, 2, 3, 4, 5, 6, 7, 8, 9, 10] (by decide) rfl ?_
      refine j_if_eq (tgt := 64) F d_M_fits_57 (by decide) (fun c_57 => ?_) (fun c_57 => ?_)
      · refine j_iconst (v := nI 0) F d_M_fits_64 (by decide) ?_
        exact ret _ _ _ _ _ _ () d_M_fits_65 rfl (by decide) (by decide) rfl (bI_f (by rw [tell0 hz.2, bI_1 c_47, bI_0 c_57]; simp))
      · refine j_iconst (v := nI 1) F d_M_fits_60 (by decide) ?_
        refine j_goto (tgt := 65) F d_M_fits_61 (by decide) ?_
        exact ret _ _ _ _ _ _ () d_M_fits_65 rfl (by decide) (by decide) rfl (bI_t (by rw [tell0 hz.2, bI_1 c_47, bI_1 c_57]; rfl))
  · refine j_tabIn (tgt := 66) F d_M_fits_1 1 hz.1 (by decide) (by decide) rfl (by decide) ?_
    refine j_iloadn F d_M_fits_66 2 rfl rfl ?_
    refine j_iconst (v := nI 0) F d_M_fits_67 (by decide) ?_
    refine j_bipush (v := nI 19) F d_M_fits_68 (by decide) ?_
    refine j_goi (wc := []) (wr := [(m0, .inr (6, [.int th, .int now, .int (nI n), .int rf, .ref m1, .ref m2, .ref m3, .ref m4, .ref m5, .ref m6, .ref m7, .ref m8, .ref m9, .ref m10])), (m1, .inl (cA, 80, .inl (X 0))), (m2, .inl (cA, 80, .inl (X 1))), (m3, .inl (cA, 80, .inl (X 2))), (m4, .inl (cA, 80, .inl (X 3))), (m5, .inl (cA, 80, .inl (X 4))), (m6, .inl (cA, 20, .inl sl)), (m7, .inl (cA, 10, .inl tt)), (m8, .inl (cA, 10, .inl sm)), (m9, .inl (cA, 10, .inl hs)), (m10, .inl (cA, 64, .inl lt))]) hA [] [0, 1, 2, 3, 4, 5, 6, 7, 8, 9, 10] rfl rfl (by decide) (by decide) (fun H locs ls hP hD hl => va_runS (As := [.int a, .int (nI 0), .int (nI 19)]) (rest := []) F (ct_M_in l D cA a (nI 0) (nI 19) H.size) ⟨callB_of 3 F.2.2.2.2 (gd k_523) rfl rfl rfl (F.2.2.2.2 _ (wm k_7)) (F.2.2.2.2 _ (wm k_521)) (by decide +kernel) ⟨by decide, by decide⟩, F.2.2.2.2 _ (wm k_522)⟩ (pre_S hK hN hP hD [] rfl (by decide)) rfl rfl hl.1 rfl (lv_room (Nat.le_of_ble_eq_true rfl)) d_M_fits_70 ⟨by decide, by decide⟩) (fun r70 u70 hw70 => ?_)
    subst hw70
    refine j_ws (ws' := [(m0, .inr (6, [.int th, .int now, .int (nI n), .int rf, .ref m1, .ref m2, .ref m3, .ref m4, .ref m5, .ref m6, .ref m7, .ref m8, .ref m9, .ref m10])), (m1, .inl (cA, 80, .inl (X 0))), (m2, .inl (cA, 80, .inl (X 1))), (m3, .inl (cA, 80, .inl (X 2))), (m4, .inl (cA, 80, .inl (X 3))), (m5, .inl (cA, 80, .inl (X 4))), (m6, .inl (cA, 20, .inl sl)), (m7, .inl (cA, 10, .inl tt)), (m8, .inl (cA, 10, .inl sm)), (m9, .inl (cA, 10, .inl hs)), (m10, .inl (cA, 64, .inl lt))]) [0, 1, 2, 3, 4, 5, 6, 7, 8, 9, 10] (by decide) rfl ?_
    refine j_if_eq (tgt := 84) F d_M_fits_73 (by decide) (fun c_73 => ?_) (fun c_73 => ?_)
    · refine j_iconst (v := nI 0) F d_M_fits_84 (by decide) ?_
      exact ret _ _ _ _ _ _ () d_M_fits_85 rfl (by decide) (by decide) rfl (bI_f (by rw [tell1 hz.2, bI_0 c_73]; rfl))
    · refine j_iloadn F d_M_fits_76 3 rfl rfl ?_
      refine j_if_ne (tgt := 84) F d_M_fits_77 (by decide) (fun c_77 => ?_) (fun c_77 => ?_)
      · refine j_iconst (v := nI 0) F d_M_fits_84 (by decide) ?_
        exact ret _ _ _ _ _ _ () d_M_fits_85 rfl (by decide) (by decide) rfl (bI_f (by rw [tell1 hz.2, bI_1 c_73, decide_eq_false c_77]; simp))
      · refine j_iconst (v := nI 1) F d_M_fits_80 (by decide) ?_
        refine j_goto (tgt := 85) F d_M_fits_81 (by decide) ?_
        exact ret _ _ _ _ _ _ () d_M_fits_85 rfl (by decide) (by decide) rfl (bI_t (by rw [tell1 hz.2, bI_1 c_73, decide_eq_true c_77]; rfl))
  · refine j_tabIn (tgt := 86) F d_M_fits_1 2 hz.1 (by decide) (by decide) rfl (by decide) ?_
    refine j_iloadn F d_M_fits_86 2 rfl rfl ?_
    refine j_iconst (v := nI 0) F d_M_fits_87 (by decide) ?_
    refine j_bipush (v := nI 9) F d_M_fits_88 (by decide) ?_
    refine j_goi (wc := []) (wr := [(m0, .inr (6, [.int th, .int now, .int (nI n), .int rf, .ref m1, .ref m2, .ref m3, .ref m4, .ref m5, .ref m6, .ref m7, .ref m8, .ref m9, .ref m10])), (m1, .inl (cA, 80, .inl (X 0))), (m2, .inl (cA, 80, .inl (X 1))), (m3, .inl (cA, 80, .inl (X 2))), (m4, .inl (cA, 80, .inl (X 3))), (m5, .inl (cA, 80, .inl (X 4))), (m6, .inl (cA, 20, .inl sl)), (m7, .inl (cA, 10, .inl tt)), (m8, .inl (cA, 10, .inl sm)), (m9, .inl (cA, 10, .inl hs)), (m10, .inl (cA, 64, .inl lt))]) hA [] [0, 1, 2, 3, 4, 5, 6, 7, 8, 9, 10] rfl rfl (by decide) (by decide) (fun H locs ls hP hD hl => va_runS (As := [.int a, .int (nI 0), .int (nI 9)]) (rest := []) F (ct_M_in l D cA a (nI 0) (nI 9) H.size) ⟨callB_of 3 F.2.2.2.2 (gd k_523) rfl rfl rfl (F.2.2.2.2 _ (wm k_7)) (F.2.2.2.2 _ (wm k_521)) (by decide +kernel) ⟨by decide, by decide⟩, F.2.2.2.2 _ (wm k_522)⟩ (pre_S hK hN hP hD [] rfl (by decide)) rfl rfl hl.1 rfl (lv_room (Nat.le_of_ble_eq_true rfl)) d_M_fits_90 ⟨by decide, by decide⟩) (fun r90 u90 hw90 => ?_)
    subst hw90
    refine j_ws (ws' := [(m0, .inr (6, [.int th, .int now, .int (nI n), .int rf, .ref m1, .ref m2, .ref m3, .ref m4, .ref m5, .ref m6, .ref m7, .ref m8, .ref m9, .ref m10])), (m1, .inl (cA, 80, .inl (X 0))), (m2, .inl (cA, 80, .inl (X 1))), (m3, .inl (cA, 80, .inl (X 2))), (m4, .inl (cA, 80, .inl (X 3))), (m5, .inl (cA, 80, .inl (X 4))), (m6, .inl (cA, 20, .inl sl)), (m7, .inl (cA, 10, .inl tt)), (m8, .inl (cA, 10, .inl sm)), (m9, .inl (cA, 10, .inl hs)), (m10, .inl (cA, 64, .inl lt))]) [0, 1, 2, 3, 4, 5, 6, 7, 8, 9, 10] (by decide) rfl ?_
    refine j_if_eq (tgt := 109) F d_M_fits_93 (by decide) (fun c_93 => ?_) (fun c_93 => ?_)
    · refine j_iconst (v := nI 0) F d_M_fits_109 (by decide) ?_
      exact ret _ _ _ _ _ _ () d_M_fits_110 rfl (by decide) (by decide) rfl (bI_f (by rw [tell2 hz.2, bI_0 c_93]; rfl))
    · refine j_iloadn F d_M_fits_96 3 rfl rfl ?_
      refine j_iconst (v := nI 0) F d_M_fits_97 (by decide) ?_
      refine j_iconst (v := nI 5) F d_M_fits_98 (by decide) ?_
      refine j_goi (wc := []) (wr := [(m0, .inr (6, [.int th, .int now, .int (nI n), .int rf, .ref m1, .ref m2, .ref m3, .ref m4, .ref m5, .ref m6, .ref m7, .ref m8, .ref m9, .ref m10])), (m1, .inl (cA, 80, .inl (X 0))), (m2, .inl (cA, 80, .inl (X 1))), (m3, .inl (cA, 80, .inl (X 2))), (m4, .inl (cA, 80, .inl (X 3))), (m5, .inl (cA, 80, .inl (X 4))), (m6, .inl (cA, 20, .inl sl)), (m7, .inl (cA, 10, .inl tt)), (m8, .inl (cA, 10, .inl sm)), (m9, .inl (cA, 10, .inl hs)), (m10, .inl (cA, 64, .inl lt))]) hA [] [0, 1, 2, 3, 4, 5, 6, 7, 8, 9, 10] rfl rfl (by decide) (by decide) (fun H locs ls hP hD hl => va_runS (As := [.int b, .int (nI 0), .int (nI 5)]) (rest := []) F (ct_M_in l D cA b (nI 0) (nI 5) H.size) ⟨callB_of 3 F.2.2.2.2 (gd k_523) rfl rfl rfl (F.2.2.2.2 _ (wm k_7)) (F.2.2.2.2 _ (wm k_521)) (by decide +kernel) ⟨by decide, by decide⟩, F.2.2.2.2 _ (wm k_522)⟩ (pre_S hK hN hP hD [] rfl (by decide)) rfl rfl hl.1 rfl (lv_room (Nat.le_of_ble_eq_true rfl)) d_M_fits_99 ⟨by decide, by decide⟩) (fun r99 u99 hw99 => ?_)
      subst hw99
      refine j_ws (ws' := [(m0, .inr (6, [.int th, .int now, .int (nI n), .int rf, .ref m1, .ref m2, .ref m3, .ref m4, .ref m5, .ref m6, .ref m7, .ref m8, .ref m9, .ref m10])), (m1, .inl (cA, 80, .inl (X 0))), (m2, .inl (cA, 80, .inl (X 1))), (m3, .inl (cA, 80, .inl (X 2))), (m4, .inl (cA, 80, .inl (X 3))), (m5, .inl (cA, 80, .inl (X 4))), (m6, .inl (cA, 20, .inl sl)), (m7, .inl (cA, 10, .inl tt)), (m8, .inl (cA, 10, .inl sm)), (m9, .inl (cA, 10, .inl hs)), (m10, .inl (cA, 64, .inl lt))]) [0, 1, 2, 3, 4, 5, 6, 7, 8, 9, 10] (by decide) rfl ?_
      refine j_if_eq (tgt := 109) F d_M_fits_102 (by decide) (fun c_102 => ?_) (fun c_102 => ?_)
      · refine j_iconst (v := nI 0) F d_M_fits_109 (by decide) ?_
        exact ret _ _ _ _ _ _ () d_M_fits_110 rfl (by decide) (by decide) rfl (bI_f (by rw [tell2 hz.2, bI_1 c_93, bI_0 c_102]; simp))
      · refine j_iconst (v := nI 1) F d_M_fits_105 (by decide) ?_
        refine j_goto (tgt := 110) F d_M_fits_106 (by decide) ?_
        exact ret _ _ _ _ _ _ () d_M_fits_110 rfl (by decide) (by decide) rfl (bI_t (by rw [tell2 hz.2, bI_1 c_93, bI_1 c_102]; rfl))
  · refine j_tabIn (tgt := 111) F d_M_fits_1 3 hz.1 (by decide) (by decide) rfl (by decide) ?_
    refine j_iloadn F d_M_fits_111 2 rfl rfl ?_
    refine j_iconst (v := nI 0) F d_M_fits_112 (by decide) ?_
    refine j_bipush (v := nI 9) F d_M_fits_113 (by decide) ?_
    refine j_goi (wc := []) (wr := [(m0, .inr (6, [.int th, .int now, .int (nI n), .int rf, .ref m1, .ref m2, .ref m3, .ref m4, .ref m5, .ref m6, .ref m7, .ref m8, .ref m9, .ref m10])), (m1, .inl (cA, 80, .inl (X 0))), (m2, .inl (cA, 80, .inl (X 1))), (m3, .inl (cA, 80, .inl (X 2))), (m4, .inl (cA, 80, .inl (X 3))), (m5, .inl (cA, 80, .inl (X 4))), (m6, .inl (cA, 20, .inl sl)), (m7, .inl (cA, 10, .inl tt)), (m8, .inl (cA, 10, .inl sm)), (m9, .inl (cA, 10, .inl hs)), (m10, .inl (cA, 64, .inl lt))]) hA [] [0, 1, 2, 3, 4, 5, 6, 7, 8, 9, 10] rfl rfl (by decide) (by decide) (fun H locs ls hP hD hl => va_runS (As := [.int a, .int (nI 0), .int (nI 9)]) (rest := []) F (ct_M_in l D cA a (nI 0) (nI 9) H.size) ⟨callB_of 3 F.2.2.2.2 (gd k_523) rfl rfl rfl (F.2.2.2.2 _ (wm k_7)) (F.2.2.2.2 _ (wm k_521)) (by decide +kernel) ⟨by decide, by decide⟩, F.2.2.2.2 _ (wm k_522)⟩ (pre_S hK hN hP hD [] rfl (by decide)) rfl rfl hl.1 rfl (lv_room (Nat.le_of_ble_eq_true rfl)) d_M_fits_115 ⟨by decide, by decide⟩) (fun r115 u115 hw115 => ?_)
    subst hw115
    refine j_ws (ws' := [(m0, .inr (6, [.int th, .int now, .int (nI n), .int rf, .ref m1, .ref m2, .ref m3, .ref m4, .ref m5, .ref m6, .ref m7, .ref m8, .ref m9, .ref m10])), (m1, .inl (cA, 80, .inl (X 0))), (m2, .inl (cA, 80, .inl (X 1))), (m3, .inl (cA, 80, .inl (X 2))), (m4, .inl (cA, 80, .inl (X 3))), (m5, .inl (cA, 80, .inl (X 4))), (m6, .inl (cA, 20, .inl sl)), (m7, .inl (cA, 10, .inl tt)), (m8, .inl (cA, 10, .inl sm)), (m9, .inl (cA, 10, .inl hs)), (m10, .inl (cA, 64, .inl lt))]) [0, 1, 2, 3, 4, 5, 6, 7, 8, 9, 10] (by decide) rfl ?_
    refine j_if_eq (tgt := 136) F d_M_fits_118 (by decide) (fun c_118 => ?_) (fun c_118 => ?_)
    · refine j_iconst (v := nI 0) F d_M_fits_136 (by decide) ?_
      exact ret _ _ _ _ _ _ () d_M_fits_137 rfl (by decide) (by decide) rfl (bI_f (by rw [tell3 hz.2, bI_0 c_118]; rfl))
    · refine j_iloadn F d_M_fits_121 3 rfl rfl ?_
      refine j_ldc (v := (-1000000)) F (wm k_524) d_M_fits_122 ?_
      refine j_ldc (v := 1000000) F (wm k_525) d_M_fits_124 ?_
      refine j_goi (wc := []) (wr := [(m0, .inr (6, [.int th, .int now, .int (nI n), .int rf, .ref m1, .ref m2, .ref m3, .ref m4, .ref m5, .ref m6, .ref m7, .ref m8, .ref m9, .ref m10])), (m1, .inl (cA, 80, .inl (X 0))), (m2, .inl (cA, 80, .inl (X 1))), (m3, .inl (cA, 80, .inl (X 2))), (m4, .inl (cA, 80, .inl (X 3))), (m5, .inl (cA, 80, .inl (X 4))), (m6, .inl (cA, 20, .inl sl)), (m7, .inl (cA, 10, .inl tt)), (m8, .inl (cA, 10, .inl sm)), (m9, .inl (cA, 10, .inl hs)), (m10, .inl (cA, 64, .inl lt))]) hA [] [0, 1, 2, 3, 4, 5, 6, 7, 8, 9, 10] rfl rfl (by decide) (by decide) (fun H locs ls hP hD hl => va_runS (As := [.int b, .int (-1000000), .int 1000000]) (rest := []) F (ct_M_in l D cA b (-1000000) 1000000 H.size) ⟨callB_of 3 F.2.2.2.2 (gd k_523) rfl rfl rfl (F.2.2.2.2 _ (wm k_7)) (F.2.2.2.2 _ (wm k_521)) (by decide +kernel) ⟨by decide, by decide⟩, F.2.2.2.2 _ (wm k_522)⟩ (pre_S hK hN hP hD [] rfl (by decide)) rfl rfl hl.1 rfl (lv_room (Nat.le_of_ble_eq_true rfl)) d_M_fits_126 ⟨by decide, by decide⟩) (fun r126 u126 hw126 => ?_)
      subst hw126
      refine j_ws (ws' := [(m0, .inr (6, [.int th, .int now, .int (nI n), .int rf, .ref m1, .ref m2, .ref m3, .ref m4, .ref m5, .ref m6, .ref m7, .ref m8, .ref m9, .ref m10])), (m1, .inl (cA, 80, .inl (X 0))), (m2, .inl (cA, 80, .inl (X 1))), (m3, .inl (cA, 80, .inl (X 2))), (m4, .inl (cA, 80, .inl (X 3))), (m5, .inl (cA, 80, .inl (X 4))), (m6, .inl (cA, 20, .inl sl)), (m7, .inl (cA, 10, .inl tt)), (m8, .inl (cA, 10, .inl sm)), (m9, .inl (cA, 10, .inl hs)), (m10, .inl (cA, 64, .inl lt))]) [0, 1, 2, 3, 4, 5, 6, 7, 8, 9, 10] (by decide) rfl ?_
      refine j_if_eq (tgt := 136) F d_M_fits_129 (by decide) (fun c_129 => ?_) (fun c_129 => ?_)
      · refine j_iconst (v := nI 0) F d_M_fits_136 (by decide) ?_
        exact ret _ _ _ _ _ _ () d_M_fits_137 rfl (by decide) (by decide) rfl (bI_f (by rw [tell3 hz.2, bI_1 c_118, bI_0 c_129]; simp))
      · refine j_iconst (v := nI 1) F d_M_fits_132 (by decide) ?_
        refine j_goto (tgt := 137) F d_M_fits_133 (by decide) ?_
        exact ret _ _ _ _ _ _ () d_M_fits_137 rfl (by decide) (by decide) rfl (bI_t (by rw [tell3 hz.2, bI_1 c_118, bI_1 c_129]; rfl))
  · refine j_tabIn (tgt := 138) F d_M_fits_1 4 hz.1 (by decide) (by decide) rfl (by decide) ?_
    refine j_iloadn F d_M_fits_138 2 rfl rfl ?_
    refine j_iconst (v := nI 0) F d_M_fits_139 (by decide) ?_
    refine j_bipush (v := nI 9) F d_M_fits_140 (by decide) ?_
    refine j_goi (wc := []) (wr := [(m0, .inr (6, [.int th, .int now, .int (nI n), .int rf, .ref m1, .ref m2, .ref m3, .ref m4, .ref m5, .ref m6, .ref m7, .ref m8, .ref m9, .ref m10])), (m1, .inl (cA, 80, .inl (X 0))), (m2, .inl (cA, 80, .inl (X 1))), (m3, .inl (cA, 80, .inl (X 2))), (m4, .inl (cA, 80, .inl (X 3))), (m5, .inl (cA, 80, .inl (X 4))), (m6, .inl (cA, 20, .inl sl)), (m7, .inl (cA, 10, .inl tt)), (m8, .inl (cA, 10, .inl sm)), (m9, .inl (cA, 10, .inl hs)), (m10, .inl (cA, 64, .inl lt))]) hA [] [0, 1, 2, 3, 4, 5, 6, 7, 8, 9, 10] rfl rfl (by decide) (by decide) (fun H locs ls hP hD hl => va_runS (As := [.int a, .int (nI 0), .int (nI 9)]) (rest := []) F (ct_M_in l D cA a (nI 0) (nI 9) H.size) ⟨callB_of 3 F.2.2.2.2 (gd k_523) rfl rfl rfl (F.2.2.2.2 _ (wm k_7)) (F.2.2.2.2 _ (wm k_521)) (by decide +kernel) ⟨by decide, by decide⟩, F.2.2.2.2 _ (wm k_522)⟩ (pre_S hK hN hP hD [] rfl (by decide)) rfl rfl hl.1 rfl (lv_room (Nat.le_of_ble_eq_true rfl)) d_M_fits_142 ⟨by decide, by decide⟩) (fun r142 u142 hw142 => ?_)
    subst hw142
    refine j_ws (ws' := [(m0, .inr (6, [.int th, .int now, .int (nI n), .int rf, .ref m1, .ref m2, .ref m3, .ref m4, .ref m5, .ref m6, .ref m7, .ref m8, .ref m9, .ref m10])), (m1, .inl (cA, 80, .inl (X 0))), (m2, .inl (cA, 80, .inl (X 1))), (m3, .inl (cA, 80, .inl (X 2))), (m4, .inl (cA, 80, .inl (X 3))), (m5, .inl (cA, 80, .inl (X 4))), (m6, .inl (cA, 20, .inl sl)), (m7, .inl (cA, 10, .inl tt)), (m8, .inl (cA, 10, .inl sm)), (m9, .inl (cA, 10, .inl hs)), (m10, .inl (cA, 64, .inl lt))]) [0, 1, 2, 3, 4, 5, 6, 7, 8, 9, 10] (by decide) rfl ?_
    refine j_if_eq (tgt := 163) F d_M_fits_145 (by decide) (fun c_145 => ?_) (fun c_145 => ?_)
    · refine j_iconst (v := nI 0) F d_M_fits_163 (by decide) ?_
      exact ret _ _ _ _ _ _ () d_M_fits_164 rfl (by decide) (by decide) rfl (bI_f (by rw [tell4 hz.2, bI_0 c_145]; rfl))
    · refine j_iloadn F d_M_fits_148 3 rfl rfl ?_
      refine j_iconst (v := nI 1) F d_M_fits_149 (by decide) ?_
      refine j_sipush (v := nI 1000) F d_M_fits_150 (by decide) ?_
      refine j_goi (wc := []) (wr := [(m0, .inr (6, [.int th, .int now, .int (nI n), .int rf, .ref m1, .ref m2, .ref m3, .ref m4, .ref m5, .ref m6, .ref m7, .ref m8, .ref m9, .ref m10])), (m1, .inl (cA, 80, .inl (X 0))), (m2, .inl (cA, 80, .inl (X 1))), (m3, .inl (cA, 80, .inl (X 2))), (m4, .inl (cA, 80, .inl (X 3))), (m5, .inl (cA, 80, .inl (X 4))), (m6, .inl (cA, 20, .inl sl)), (m7, .inl (cA, 10, .inl tt)), (m8, .inl (cA, 10, .inl sm)), (m9, .inl (cA, 10, .inl hs)), (m10, .inl (cA, 64, .inl lt))]) hA [] [0, 1, 2, 3, 4, 5, 6, 7, 8, 9, 10] rfl rfl (by decide) (by decide) (fun H locs ls hP hD hl => va_runS (As := [.int b, .int (nI 1), .int (nI 1000)]) (rest := []) F (ct_M_in l D cA b (nI 1) (nI 1000) H.size) ⟨callB_of 3 F.2.2.2.2 (gd k_523) rfl rfl rfl (F.2.2.2.2 _ (wm k_7)) (F.2.2.2.2 _ (wm k_521)) (by decide +kernel) ⟨by decide, by decide⟩, F.2.2.2.2 _ (wm k_522)⟩ (pre_S hK hN hP hD [] rfl (by decide)) rfl rfl hl.1 rfl (lv_room (Nat.le_of_ble_eq_true rfl)) d_M_fits_153 ⟨by decide, by decide⟩) (fun r153 u153 hw153 => ?_)
      subst hw153
      refine j_ws (ws' := [(m0, .inr (6, [.int th, .int now, .int (nI n), .int rf, .ref m1, .ref m2, .ref m3, .ref m4, .ref m5, .ref m6, .ref m7, .ref m8, .ref m9, .ref m10])), (m1, .inl (cA, 80, .inl (X 0))), (m2, .inl (cA, 80, .inl (X 1))), (m3, .inl (cA, 80, .inl (X 2))), (m4, .inl (cA, 80, .inl (X 3))), (m5, .inl (cA, 80, .inl (X 4))), (m6, .inl (cA, 20, .inl sl)), (m7, .inl (cA, 10, .inl tt)), (m8, .inl (cA, 10, .inl sm)), (m9, .inl (cA, 10, .inl hs)), (m10, .inl (cA, 64, .inl lt))]) [0, 1, 2, 3, 4, 5, 6, 7, 8, 9, 10] (by decide) rfl ?_
      refine j_if_eq (tgt := 163) F d_M_fits_156 (by decide) (fun c_156 => ?_) (fun c_156 => ?_)
      · refine j_iconst (v := nI 0) F d_M_fits_163 (by decide) ?_
        exact ret _ _ _ _ _ _ () d_M_fits_164 rfl (by decide) (by decide) rfl (bI_f (by rw [tell4 hz.2, bI_1 c_145, bI_0 c_156]; simp))
      · refine j_iconst (v := nI 1) F d_M_fits_159 (by decide) ?_
        refine j_goto (tgt := 164) F d_M_fits_160 (by decide) ?_
        exact ret _ _ _ _ _ _ () d_M_fits_164 rfl (by decide) (by decide) rfl (bI_t (by rw [tell4 hz.2, bI_1 c_145, bI_1 c_156]; rfl))
  · refine j_tabIn (tgt := 165) F d_M_fits_1 5 hz.1 (by decide) (by decide) rfl (by decide) ?_
    refine j_iloadn F d_M_fits_165 2 rfl rfl ?_
    refine j_if_lt (tgt := 211) F d_M_fits_166 (by decide) (fun c_166 => ?_) (fun c_166 => ?_)
    · refine j_iconst (v := nI 0) F d_M_fits_211 (by decide) ?_
      exact ret _ _ _ _ _ _ () d_M_fits_212 rfl (by decide) (by decide) rfl (bI_f (by rw [tell5 hz.2, decide_eq_false (fun h => jn_no c_166 h)]; rfl))
    · refine j_iloadn F d_M_fits_169 2 rfl rfl ?_
      refine j_aloadn F d_M_fits_170 0 rfl rfl ?_
      refine j_get (ci := 6) (v := .int (nI n)) F in_M hK 0 rfl rfl 2 (by decide) (wm k_468) rfl d_M_fits_171 ?_
      refine j_ic_ge (tgt := 211) F d_M_fits_174 (by decide) (fun c_174 => ?_) (fun c_174 => ?_)
      · refine j_iconst (v := nI 0) F d_M_fits_211 (by decide) ?_
        exact ret _ _ _ _ _ _ () d_M_fits_212 rfl (by decide) (by decide) rfl (bI_f (by rw [tell5 hz.2, decide_eq_false (p := a < nI n) (fun h => jn_no h c_174), Bool.and_false, Bool.false_and]))
      · have hb : hasB n a = true := by unfold hasB; rw [decide_eq_true (jn_nlt c_166), decide_eq_true (jn_nle c_174)]; rfl
        obtain ⟨j, hj, rfl⟩ := has_nat (by omega) hb
        refine j_aloadn F d_M_fits_177 0 rfl rfl ?_
        refine j_get (ci := 6) (v := .ref m1) F in_M hK 0 rfl rfl 4 (by decide) (wm k_470) rfl d_M_fits_178 ?_
        refine j_iloadn F d_M_fits_181 2 rfl rfl ?_
        refine j_if_lt (tgt := 197) F d_M_fits_182 (by decide) (fun c_182 => ?_) (fun c_182 => ?_)
        · have c_182 : j < 0 := (nI_ltI (by omega) (by omega)).mp c_182
          exact absurd c_182 (by omega)
        · have c_182 : ¬ j < 0 := fun h => c_182 ((nI_ltI (by omega) (by omega)).mpr h)
          refine j_iloadn F d_M_fits_185 2 rfl rfl ?_
          refine j_aloadn F d_M_fits_186 0 rfl rfl ?_
          refine j_get (ci := 6) (v := .int (nI n)) F in_M hK 0 rfl rfl 2 (by decide) (wm k_468) rfl d_M_fits_187 ?_
          refine j_ic_ge (tgt := 197) F d_M_fits_190 (by decide) (fun c_190 => ?_) (fun c_190 => ?_)
          · have c_190 : n ≤ j := (nI_leI (by omega) (by omega)).mp c_190
            exact absurd c_190 (by omega)
          · have c_190 : ¬ n ≤ j := fun h => c_190 ((nI_leI (by omega) (by omega)).mpr h)
            refine j_iloadn F d_M_fits_193 2 rfl rfl ?_
            refine j_goto (tgt := 198) F d_M_fits_194 (by decide) ?_
            refine j_iald (v := (X 0) j) F hK 1 0 rfl rfl (by omega) (by decide) d_M_fits_198 rfl ?_
            refine j_iconst (v := nI 5) F d_M_fits_199 (by decide) ?_
            refine j_ic_eq (tgt := 211) F d_M_fits_200 (by decide) (fun c_200 => ?_) (fun c_200 => ?_)
            · refine j_iconst (v := nI 0) F d_M_fits_211 (by decide) ?_
              exact ret _ _ _ _ _ _ () d_M_fits_212 rfl (by decide) (by decide) rfl (bI_f (by rw [tell5 hz.2, show (decide (nI 0 ≤ nI j) && decide (nI j < nI n)) = true from hb, show (!decide (X 0 (nI j).toNatClampNeg = nI 5)) = false by rw [nI_clamp (by omega), decide_eq_true c_200]; rfl]; rfl))
            · refine j_iloadn F d_M_fits_203 3 rfl rfl ?_
              refine j_if_ne (tgt := 211) F d_M_fits_204 (by decide) (fun c_204 => ?_) (fun c_204 => ?_)
              · refine j_iconst (v := nI 0) F d_M_fits_211 (by decide) ?_
                exact ret _ _ _ _ _ _ () d_M_fits_212 rfl (by decide) (by decide) rfl (bI_f (by rw [tell5 hz.2, show (decide (nI 0 ≤ nI j) && decide (nI j < nI n)) = true from hb, show (!decide (X 0 (nI j).toNatClampNeg = nI 5)) = true by rw [nI_clamp (by omega), decide_eq_false c_200]; rfl, decide_eq_false c_204]; rfl))
              · refine j_iconst (v := nI 1) F d_M_fits_207 (by decide) ?_
                refine j_goto (tgt := 212) F d_M_fits_208 (by decide) ?_
                exact ret _ _ _ _ _ _ () d_M_fits_212 rfl (by decide) (by decide) rfl (bI_t (by rw [tell5 hz.2, show (decide (nI 0 ≤ nI j) && decide (nI j < nI n)) = true from hb, show (!decide (X 0 (nI j).toNatClampNeg = nI 5)) = true by rw [nI_clamp (by omega), decide_eq_false c_200]; rfl, decide_eq_true c_204]; rfl))
  · refine j_tabOut (tgt := 213) F d_M_fits_1 hz.1 (by decide) ?_
    refine j_iconst (v := nI 0) F d_M_fits_213 (by decide) ?_
    exact ret _ _ _ _ _ _ () d_M_fits_214 rfl (by decide) (by decide) rfl (bI_f (tellN hz.2))

def rm_M_event : Room := { frames := 2, cells := 0, slots := 0, locals := 45 }
set_option maxHeartbeats 4000000 in
set_option maxRecDepth 100000 in
theorem ct_M_event_ok (l : Launch) (D : va_G) (cA : ClassId) (m0 m1 m2 m3 m4 m5 m6 m7 m8 m9 m10 : Nat) (th now : Int32) (n : Nat) (rf : Int32) (X : AF) (sl tt sm hs lt : Nat → Int32) (hA0 : aok X n) (kd a b v : Int32) (hok : (decide (80 ≤ n) || (!win v (nI 0) (nI 10000) || !tellB X n kd a b)) = false) : Ci (S := Unit) l y_M_event (Cond.code y_M_event c_M_event 5 (some .int) :: WD) rm_M_event D vwCl [(cA, .int)] nws [.ref m0, .int kd, .int a, .int b, .int v] [(m0, .inr (6, [.int th, .int now, .int (nI n), .int rf, .ref m1, .ref m2, .ref m3, .ref m4, .ref m5, .ref m6, .ref m7, .ref m8, .ref m9, .ref m10])), (m1, .inl (cA, 80, .inl (X 0))), (m2, .inl (cA, 80, .inl (X 1))), (m3, .inl (cA, 80, .inl (X 2))), (m4, .inl (cA, 80, .inl (X 3))), (m5, .inl (cA, 80, .inl (X 4))), (m6, .inl (cA, 20, .inl sl)), (m7, .inl (cA, 10, .inl tt)), (m8, .inl (cA, 10, .inl sm)), (m9, .inl (cA, 10, .inl hs)), (m10, .inl (cA, 64, .inl lt))] 0 0 (fun r _ => r = nI n) (fun _ => [(m0, .inr (6, [.int (nI 0), .int now, .int (nI (n + 1)), .int rf, .ref m1, .ref m2, .ref m3, .ref m4, .ref m5, .ref m6, .ref m7, .ref m8, .ref m9, .ref m10])), (m1, .inl (cA, 80, .inl ((apnd X n kd a b v now) 0))), (m2, .inl (cA, 80, .inl ((apnd X n kd a b v now) 1))), (m3, .inl (cA, 80, .inl ((apnd X n kd a b v now) 2))), (m4, .inl (cA, 80, .inl ((apnd X n kd a b v now) 3))), (m5, .inl (cA, 80, .inl ((apnd X n kd a b v now) 4))), (m6, .inl (cA, 20, .inl sl)), (m7, .inl (cA, 10, .inl tt)), (m8, .inl (cA, 10, .inl sm)), (m9, .inl (cA, 10, .inl hs)), (m10, .inl (cA, 64, .inl lt))]) := by
  refine Ci.of (cc := c_M_event) (nL := 5) (lv := [(0, .ref m0), (1, .int kd), (2, .int a), (3, .int b), (4, .int v)]) (by decide) rfl (Nat.le_of_ble_eq_true rfl) rfl ?_
  intro p e s m args below meth cd A Q F hK hN hA ret
  have h80 := hA0.1
  rw [Bool.or_eq_false_iff, Bool.or_eq_false_iff, Bool.not_eq_false', Bool.not_eq_false'] at hok
  obtain ⟨hok1, hok2, hok3⟩ := hok
  have hn8 : ¬ 80 ≤ n := of_decide_eq_false hok1
  refine j_aloadn F d_M_event_0 0 rfl rfl ?_
  refine j_iconst (v := nI 0) F d_M_event_1 (by decide) ?_
  refine j_put (ci := 6) (v := .int (nI 0)) (ty := .int) (ws' := [(m0, .inr (6, [.int (nI 0), .int now, .int (nI n), .int rf, .ref m1, .ref m2, .ref m3, .ref m4, .ref m5, .ref m6, .ref m7, .ref m8, .ref m9, .ref m10])), (m1, .inl (cA, 80, .inl (X 0))), (m2, .inl (cA, 80, .inl (X 1))), (m3, .inl (cA, 80, .inl (X 2))), (m4, .inl (cA, 80, .inl (X 3))), (m5, .inl (cA, 80, .inl (X 4))), (m6, .inl (cA, 20, .inl sl)), (m7, .inl (cA, 10, .inl tt)), (m8, .inl (cA, 10, .inl sm)), (m9, .inl (cA, 10, .inl hs)), (m10, .inl (cA, 64, .inl lt))]) F in_M ty_M tk_M nm_M hK 0 rfl rfl 0 (by decide) (wm k_466) rfl (by decide +kernel) rfl rfl (Nat.le_of_ble_eq_true rfl) d_M_event_2 rfl ?_
  refine j_aloadn F d_M_event_5 0 rfl rfl ?_
  refine j_iloadn F d_M_event_6 1 rfl rfl ?_
  refine j_iloadn F d_M_event_7 2 rfl rfl ?_
  refine j_iloadn F d_M_event_8 3 rfl rfl ?_
  refine j_goi (wc := [(m0, .inr (6, [.int (nI 0), .int now, .int (nI n), .int rf, .ref m1, .ref m2, .ref m3, .ref m4, .ref m5, .ref m6, .ref m7, .ref m8, .ref m9, .ref m10])), (m1, .inl (cA, 80, .inl (X 0))), (m2, .inl (cA, 80, .inl (X 1))), (m3, .inl (cA, 80, .inl (X 2))), (m4, .inl (cA, 80, .inl (X 3))), (m5, .inl (cA, 80, .inl (X 4))), (m6, .inl (cA, 20, .inl sl)), (m7, .inl (cA, 10, .inl tt)), (m8, .inl (cA, 10, .inl sm)), (m9, .inl (cA, 10, .inl hs)), (m10, .inl (cA, 64, .inl lt))]) (wr := []) hA [0, 1, 2, 3, 4, 5, 6, 7, 8, 9, 10] [] rfl rfl (by decide) (by decide) (fun H locs ls hP hD hl => va_runV (As := [.int kd, .int a, .int b]) (rest := []) F (ct_M_fits l D cA m0 m1 m2 m3 m4 m5 m6 m7 m8 m9 m10 (nI 0) now n rf X sl tt sm hs lt hA0 kd a b  H.size) ⟨callB_of 3 F.2.2.2.2 (gd k_520) rfl rfl rfl (F.2.2.2.2 _ (wm k_7)) (F.2.2.2.2 _ (wm k_517)) (by decide +kernel) ⟨by decide, by decide⟩, F.2.2.2.2 _ (wm k_519), F.2.2.2.2 _ (wm ks_25)⟩ (pre_V rfl hK hN hP hD [0, 1, 2, 3, 4, 5, 6, 7, 8, 9, 10] rfl (by decide) 0 rfl rfl) rfl rfl hl.1 rfl (lv_room (Nat.le_of_ble_eq_true rfl)) d_M_event_9 ⟨by decide, by decide⟩) (fun r9 u9 hw9 => ?_)
  subst hw9
  refine j_ws (ws' := [(m0, .inr (6, [.int (nI 0), .int now, .int (nI n), .int rf, .ref m1, .ref m2, .ref m3, .ref m4, .ref m5, .ref m6, .ref m7, .ref m8, .ref m9, .ref m10])), (m1, .inl (cA, 80, .inl (X 0))), (m2, .inl (cA, 80, .inl (X 1))), (m3, .inl (cA, 80, .inl (X 2))), (m4, .inl (cA, 80, .inl (X 3))), (m5, .inl (cA, 80, .inl (X 4))), (m6, .inl (cA, 20, .inl sl)), (m7, .inl (cA, 10, .inl tt)), (m8, .inl (cA, 10, .inl sm)), (m9, .inl (cA, 10, .inl hs)), (m10, .inl (cA, 64, .inl lt))]) [0, 1, 2, 3, 4, 5, 6, 7, 8, 9, 10] (by decide) rfl ?_
  refine j_if_eq (tgt := 32) F d_M_event_12 (by decide) (fun c_12 => ?_) (fun c_12 => ?_)
  · exact absurd (bI_0 c_12) (by rw [hok3]; decide)
  · refine j_iload F d_M_event_15 4 rfl ?_
    refine j_goi (wc := []) (wr := [(m0, .inr (6, [.int (nI 0), .int now, .int (nI n), .int rf, .ref m1, .ref m2, .ref m3, .ref m4, .ref m5, .ref m6, .ref m7, .ref m8, .ref m9, .ref m10])), (m1, .inl (cA, 80, .inl (X 0))), (m2, .inl (cA, 80, .inl (X 1))), (m3, .inl (cA, 80, .inl (X 2))), (m4, .inl (cA, 80, .inl (X 3))), (m5, .inl (cA, 80, .inl (X 4))), (m6, .inl (cA, 20, .inl sl)), (m7, .inl (cA, 10, .inl tt)), (m8, .inl (cA, 10, .inl sm)), (m9, .inl (cA, 10, .inl hs)), (m10, .inl (cA, 64, .inl lt))]) hA [] [0, 1, 2, 3, 4, 5, 6, 7, 8, 9, 10] rfl rfl (by decide) (by decide) (fun H locs ls hP hD hl => va_runS (As := [.int v]) (rest := []) F (ct_M_isTime l D cA v H.size) ⟨callB_of 1 F.2.2.2.2 (gd k_528) rfl rfl rfl (F.2.2.2.2 _ (wm k_7)) (F.2.2.2.2 _ (wm k_526)) (by decide +kernel) ⟨by decide, by decide⟩, F.2.2.2.2 _ (wm k_527)⟩ (pre_S hK hN hP hD [] rfl (by decide)) rfl rfl hl.1 rfl (lv_room (Nat.le_of_ble_eq_true rfl)) d_M_event_17 ⟨by decide, by decide⟩) (fun r17 u17 hw17 => ?_)
    subst hw17
    refine j_ws (ws' := [(m0, .inr (6, [.int (nI 0), .int now, .int (nI n), .int rf, .ref m1, .ref m2, .ref m3, .ref m4, .ref m5, .ref m6, .ref m7, .ref m8, .ref m9, .ref m10])), (m1, .inl (cA, 80, .inl (X 0))), (m2, .inl (cA, 80, .inl (X 1))), (m3, .inl (cA, 80, .inl (X 2))), (m4, .inl (cA, 80, .inl (X 3))), (m5, .inl (cA, 80, .inl (X 4))), (m6, .inl (cA, 20, .inl sl)), (m7, .inl (cA, 10, .inl tt)), (m8, .inl (cA, 10, .inl sm)), (m9, .inl (cA, 10, .inl hs)), (m10, .inl (cA, 64, .inl lt))]) [0, 1, 2, 3, 4, 5, 6, 7, 8, 9, 10] (by decide) rfl ?_
    refine j_if_eq (tgt := 32) F d_M_event_20 (by decide) (fun c_20 => ?_) (fun c_20 => ?_)
    · exact absurd (bI_0 c_20) (by rw [hok2]; decide)
    · refine j_aloadn F d_M_event_23 0 rfl rfl ?_
      refine j_get (ci := 6) (v := .int (nI n)) F in_M hK 0 rfl rfl 2 (by decide) (wm k_468) rfl d_M_event_24 ?_
      refine j_bipush (v := nI 80) F d_M_event_27 (by decide) ?_
      refine j_ic_ne (tgt := 44) F d_M_event_29 (by decide) (fun c_29 => ?_) (fun c_29 => ?_)
      · have c_29 : ¬ n = 80 := fun h => c_29 ((nI_eq (by omega) (by omega)).mpr h)
        refine j_aloadn F d_M_event_44 0 rfl rfl ?_
        refine j_get (ci := 6) (v := .ref m1) F in_M hK 0 rfl rfl 4 (by decide) (wm k_470) rfl d_M_event_45 ?_
        refine j_aloadn F d_M_event_48 0 rfl rfl ?_
        refine j_get (ci := 6) (v := .int (nI n)) F in_M hK 0 rfl rfl 2 (by decide) (wm k_468) rfl d_M_event_49 ?_
        refine j_iloadn F d_M_event_52 1 rfl rfl ?_
        refine j_iast (ws' := [(m0, .inr (6, [.int (nI 0), .int now, .int (nI n), .int rf, .ref m1, .ref m2, .ref m3, .ref m4, .ref m5, .ref m6, .ref m7, .ref m8, .ref m9, .ref m10])), (m1, .inl (cA, 80, .inl (upd (X 0) n kd))), (m2, .inl (cA, 80, .inl (X 1))), (m3, .inl (cA, 80, .inl (X 2))), (m4, .inl (cA, 80, .inl (X 3))), (m5, .inl (cA, 80, .inl (X 4))), (m6, .inl (cA, 20, .inl sl)), (m7, .inl (cA, 10, .inl tt)), (m8, .inl (cA, 10, .inl sm)), (m9, .inl (cA, 10, .inl hs)), (m10, .inl (cA, 64, .inl lt))]) F hK 1 0 rfl rfl (by omega) (by decide) d_M_event_53 rfl ?_
        refine j_aloadn F d_M_event_54 0 rfl rfl ?_
        refine j_get (ci := 6) (v := .ref m2) F in_M hK 0 rfl rfl 5 (by decide) (wm k_471) rfl d_M_event_55 ?_
        refine j_aloadn F d_M_event_58 0 rfl rfl ?_
        refine j_get (ci := 6) (v := .int (nI n)) F in_M hK 0 rfl rfl 2 (by decide) (wm k_468) rfl d_M_event_59 ?_
        refine j_iloadn F d_M_event_62 2 rfl rfl ?_
        refine j_iast (ws' := [(m0, .inr (6, [.int (nI 0), .int now, .int (nI n), .int rf, .ref m1, .ref m2, .ref m3, .ref m4, .ref m5, .ref m6, .ref m7, .ref m8, .ref m9, .ref m10])), (m1, .inl (cA, 80, .inl (upd (X 0) n kd))), (m2, .inl (cA, 80, .inl (upd (X 1) n a))), (m3, .inl (cA, 80, .inl (X 2))), (m4, .inl (cA, 80, .inl (X 3))), (m5, .inl (cA, 80, .inl (X 4))), (m6, .inl (cA, 20, .inl sl)), (m7, .inl (cA, 10, .inl tt)), (m8, .inl (cA, 10, .inl sm)), (m9, .inl (cA, 10, .inl hs)), (m10, .inl (cA, 64, .inl lt))]) F hK 2 0 rfl rfl (by omega) (by decide) d_M_event_63 rfl ?_
        refine j_aloadn F d_M_event_64 0 rfl rfl ?_
        refine j_get (ci := 6) (v := .ref m3) F in_M hK 0 rfl rfl 6 (by decide) (wm k_472) rfl d_M_event_65 ?_
        refine j_aloadn F d_M_event_68 0 rfl rfl ?_
        refine j_get (ci := 6) (v := .int (nI n)) F in_M hK 0 rfl rfl 2 (by decide) (wm k_468) rfl d_M_event_69 ?_
        refine j_iloadn F d_M_event_72 3 rfl rfl ?_
        refine j_iast (ws' := [(m0, .inr (6, [.int (nI 0), .int now, .int (nI n), .int rf, .ref m1, .ref m2, .ref m3, .ref m4, .ref m5, .ref m6, .ref m7, .ref m8, .ref m9, .ref m10])), (m1, .inl (cA, 80, .inl (upd (X 0) n kd))), (m2, .inl (cA, 80, .inl (upd (X 1) n a))), (m3, .inl (cA, 80, .inl (upd (X 2) n b))), (m4, .inl (cA, 80, .inl (X 3))), (m5, .inl (cA, 80, .inl (X 4))), (m6, .inl (cA, 20, .inl sl)), (m7, .inl (cA, 10, .inl tt)), (m8, .inl (cA, 10, .inl sm)), (m9, .inl (cA, 10, .inl hs)), (m10, .inl (cA, 64, .inl lt))]) F hK 3 0 rfl rfl (by omega) (by decide) d_M_event_73 rfl ?_
        refine j_aloadn F d_M_event_74 0 rfl rfl ?_
        refine j_get (ci := 6) (v := .ref m4) F in_M hK 0 rfl rfl 7 (by decide) (wm k_473) rfl d_M_event_75 ?_
        refine j_aloadn F d_M_event_78 0 rfl rfl ?_
        refine j_get (ci := 6) (v := .int (nI n)) F in_M hK 0 rfl rfl 2 (by decide) (wm k_468) rfl d_M_event_79 ?_
        refine j_iload F d_M_event_82 4 rfl ?_
        refine j_iast (ws' := [(m0, .inr (6, [.int (nI 0), .int now, .int (nI n), .int rf, .ref m1, .ref m2, .ref m3, .ref m4, .ref m5, .ref m6, .ref m7, .ref m8, .ref m9, .ref m10])), (m1, .inl (cA, 80, .inl (upd (X 0) n kd))), (m2, .inl (cA, 80, .inl (upd (X 1) n a))), (m3, .inl (cA, 80, .inl (upd (X 2) n b))), (m4, .inl (cA, 80, .inl (upd (X 3) n v))), (m5, .inl (cA, 80, .inl (X 4))), (m6, .inl (cA, 20, .inl sl)), (m7, .inl (cA, 10, .inl tt)), (m8, .inl (cA, 10, .inl sm)), (m9, .inl (cA, 10, .inl hs)), (m10, .inl (cA, 64, .inl lt))]) F hK 4 0 rfl rfl (by omega) (by decide) d_M_event_84 rfl ?_
        refine j_aloadn F d_M_event_85 0 rfl rfl ?_
        refine j_get (ci := 6) (v := .ref m5) F in_M hK 0 rfl rfl 8 (by decide) (wm k_474) rfl d_M_event_86 ?_
        refine j_aloadn F d_M_event_89 0 rfl rfl ?_
        refine j_get (ci := 6) (v := .int (nI n)) F in_M hK 0 rfl rfl 2 (by decide) (wm k_468) rfl d_M_event_90 ?_
        refine j_aloadn F d_M_event_93 0 rfl rfl ?_
        refine j_get (ci := 6) (v := .int now) F in_M hK 0 rfl rfl 1 (by decide) (wm k_467) rfl d_M_event_94 ?_
        refine j_iast (ws' := [(m0, .inr (6, [.int (nI 0), .int now, .int (nI n), .int rf, .ref m1, .ref m2, .ref m3, .ref m4, .ref m5, .ref m6, .ref m7, .ref m8, .ref m9, .ref m10])), (m1, .inl (cA, 80, .inl (upd (X 0) n kd))), (m2, .inl (cA, 80, .inl (upd (X 1) n a))), (m3, .inl (cA, 80, .inl (upd (X 2) n b))), (m4, .inl (cA, 80, .inl (upd (X 3) n v))), (m5, .inl (cA, 80, .inl (upd (X 4) n now))), (m6, .inl (cA, 20, .inl sl)), (m7, .inl (cA, 10, .inl tt)), (m8, .inl (cA, 10, .inl sm)), (m9, .inl (cA, 10, .inl hs)), (m10, .inl (cA, 64, .inl lt))]) F hK 5 0 rfl rfl (by omega) (by decide) d_M_event_97 rfl ?_
        refine j_aloadn F d_M_event_98 0 rfl rfl ?_
        refine j_dup F d_M_event_99 rfl ?_
        refine j_get (ci := 6) (v := .int (nI n)) F in_M hK 0 rfl rfl 2 (by decide) (wm k_468) rfl d_M_event_100 ?_
        refine j_iconst (v := nI 1) F d_M_event_103 (by decide) ?_
        refine j_iadd (v := nI (n + 1)) F d_M_event_104 (nI_add _ _) ?_
        refine j_put (ci := 6) (v := .int (nI (n + 1))) (ty := .int) (ws' := [(m0, .inr (6, [.int (nI 0), .int now, .int (nI (n + 1)), .int rf, .ref m1, .ref m2, .ref m3, .ref m4, .ref m5, .ref m6, .ref m7, .ref m8, .ref m9, .ref m10])), (m1, .inl (cA, 80, .inl (upd (X 0) n kd))), (m2, .inl (cA, 80, .inl (upd (X 1) n a))), (m3, .inl (cA, 80, .inl (upd (X 2) n b))), (m4, .inl (cA, 80, .inl (upd (X 3) n v))), (m5, .inl (cA, 80, .inl (upd (X 4) n now))), (m6, .inl (cA, 20, .inl sl)), (m7, .inl (cA, 10, .inl tt)), (m8, .inl (cA, 10, .inl sm)), (m9, .inl (cA, 10, .inl hs)), (m10, .inl (cA, 64, .inl lt))]) F in_M ty_M tk_M nm_M hK 0 rfl rfl 2 (by decide) (wm k_468) rfl (by decide +kernel) rfl rfl (Nat.le_of_ble_eq_true rfl) d_M_event_105 rfl ?_
        refine j_aloadn F d_M_event_108 0 rfl rfl ?_
        refine j_get (ci := 6) (v := .int (nI (n + 1))) F in_M hK 0 rfl rfl 2 (by decide) (wm k_468) rfl d_M_event_109 ?_
        refine j_iconst (v := nI 1) F d_M_event_112 (by decide) ?_
        refine j_isub (v := nI n) F d_M_event_113 (pk_sub (by omega)) ?_
        exact ret _ _ _ _ _ _ () d_M_event_114 rfl (by decide) (by decide) rfl rfl
      · have c_29 : n = 80 := (nI_eq (by omega) (by omega)).mp c_29
        exact absurd c_29 (by omega)

set_option maxHeartbeats 4000000 in
set_option maxRecDepth 100000 in
theorem ct_M_event_no (l : Launch) (D : va_G) (cA : ClassId) (m0 m1 m2 m3 m4 m5 m6 m7 m8 m9 m10 : Nat) (th now : Int32) (n : Nat) (rf : Int32) (X : AF) (sl tt sm hs lt : Nat → Int32) (hA0 : aok X n) (kd a b v : Int32) (hok : (decide (80 ≤ n) || (!win v (nI 0) (nI 10000) || !tellB X n kd a b)) = true) : Ci (S := Unit) l y_M_event (Cond.code y_M_event c_M_event 5 (some .int) :: WD) rm_M_event D vwCl [(cA, .int)] nws [.ref m0, .int kd, .int a, .int b, .int v] [(m0, .inr (6, [.int th, .int now, .int (nI n), .int rf, .ref m1, .ref m2, .ref m3, .ref m4, .ref m5, .ref m6, .ref m7, .ref m8, .ref m9, .ref m10])), (m1, .inl (cA, 80, .inl (X 0))), (m2, .inl (cA, 80, .inl (X 1))), (m3, .inl (cA, 80, .inl (X 2))), (m4, .inl (cA, 80, .inl (X 3))), (m5, .inl (cA, 80, .inl (X 4))), (m6, .inl (cA, 20, .inl sl)), (m7, .inl (cA, 10, .inl tt)), (m8, .inl (cA, 10, .inl sm)), (m9, .inl (cA, 10, .inl hs)), (m10, .inl (cA, 64, .inl lt))] 0 0 (fun r _ => r = -1) (fun _ => [(m0, .inr (6, [.int (nI 0), .int now, .int (nI n), .int (rf + nI 1), .ref m1, .ref m2, .ref m3, .ref m4, .ref m5, .ref m6, .ref m7, .ref m8, .ref m9, .ref m10])), (m1, .inl (cA, 80, .inl (X 0))), (m2, .inl (cA, 80, .inl (X 1))), (m3, .inl (cA, 80, .inl (X 2))), (m4, .inl (cA, 80, .inl (X 3))), (m5, .inl (cA, 80, .inl (X 4))), (m6, .inl (cA, 20, .inl sl)), (m7, .inl (cA, 10, .inl tt)), (m8, .inl (cA, 10, .inl sm)), (m9, .inl (cA, 10, .inl hs)), (m10, .inl (cA, 64, .inl lt))]) := by
  refine Ci.of (cc := c_M_event) (nL := 5) (lv := [(0, .ref m0), (1, .int kd), (2, .int a), (3, .int b), (4, .int v)]) (by decide) rfl (Nat.le_of_ble_eq_true rfl) rfl ?_
  intro p e s m args below meth cd A Q F hK hN hA ret
  have h80 := hA0.1
  refine j_aloadn F d_M_event_0 0 rfl rfl ?_
  refine j_iconst (v := nI 0) F d_M_event_1 (by decide) ?_
  refine j_put (ci := 6) (v := .int (nI 0)) (ty := .int) (ws' := [(m0, .inr (6, [.int (nI 0), .int now, .int (nI n), .int rf, .ref m1, .ref m2, .ref m3, .ref m4, .ref m5, .ref m6, .ref m7, .ref m8, .ref m9, .ref m10])), (m1, .inl (cA, 80, .inl (X 0))), (m2, .inl (cA, 80, .inl (X 1))), (m3, .inl (cA, 80, .inl (X 2))), (m4, .inl (cA, 80, .inl (X 3))), (m5, .inl (cA, 80, .inl (X 4))), (m6, .inl (cA, 20, .inl sl)), (m7, .inl (cA, 10, .inl tt)), (m8, .inl (cA, 10, .inl sm)), (m9, .inl (cA, 10, .inl hs)), (m10, .inl (cA, 64, .inl lt))]) F in_M ty_M tk_M nm_M hK 0 rfl rfl 0 (by decide) (wm k_466) rfl (by decide +kernel) rfl rfl (Nat.le_of_ble_eq_true rfl) d_M_event_2 rfl ?_
  refine j_aloadn F d_M_event_5 0 rfl rfl ?_
  refine j_iloadn F d_M_event_6 1 rfl rfl ?_
  refine j_iloadn F d_M_event_7 2 rfl rfl ?_
  refine j_iloadn F d_M_event_8 3 rfl rfl ?_
  refine j_goi (wc := [(m0, .inr (6, [.int (nI 0), .int now, .int (nI n), .int rf, .ref m1, .ref m2, .ref m3, .ref m4, .ref m5, .ref m6, .ref m7, .ref m8, .ref m9, .ref m10])), (m1, .inl (cA, 80, .inl (X 0))), (m2, .inl (cA, 80, .inl (X 1))), (m3, .inl (cA, 80, .inl (X 2))), (m4, .inl (cA, 80, .inl (X 3))), (m5, .inl (cA, 80, .inl (X 4))), (m6, .inl (cA, 20, .inl sl)), (m7, .inl (cA, 10, .inl tt)), (m8, .inl (cA, 10, .inl sm)), (m9, .inl (cA, 10, .inl hs)), (m10, .inl (cA, 64, .inl lt))]) (wr := []) hA [0, 1, 2, 3, 4, 5, 6, 7, 8, 9, 10] [] rfl rfl (by decide) (by decide) (fun H locs ls hP hD hl => va_runV (As := [.int kd, .int a, .int b]) (rest := []) F (ct_M_fits l D cA m0 m1 m2 m3 m4 m5 m6 m7 m8 m9 m10 (nI 0) now n rf X sl tt sm hs lt hA0 kd a b  H.size) ⟨callB_of 3 F.2.2.2.2 (gd k_520) rfl rfl rfl (F.2.2.2.2 _ (wm k_7)) (F.2.2.2.2 _ (wm k_517)) (by decide +kernel) ⟨by decide, by decide⟩, F.2.2.2.2 _ (wm k_519), F.2.2.2.2 _ (wm ks_25)⟩ (pre_V rfl hK hN hP hD [0, 1, 2, 3, 4, 5, 6, 7, 8, 9, 10] rfl (by decide) 0 rfl rfl) rfl rfl hl.1 rfl (lv_room (Nat.le_of_ble_eq_true rfl)) d_M_event_9 ⟨by decide, by decide⟩) (fun r9 u9 hw9 => ?_)
  subst hw9
  refine j_ws (ws' := [(m0, .inr (6, [.int (nI 0), .int now, .int (nI n), .int rf, .ref m1, .ref m2, .ref m3, .ref m4, .ref m5, .ref m6, .ref m7, .ref m8, .ref m9, .ref m10])), (m1, .inl (cA, 80, .inl (X 0))), (m2, .inl (cA, 80, .inl (X 1))), (m3, .inl (cA, 80, .inl (X 2))), (m4, .inl (cA, 80, .inl (X 3))), (m5, .inl (cA, 80, .inl (X 4))), (m6, .inl (cA, 20, .inl sl)), (m7, .inl (cA, 10, .inl tt)), (m8, .inl (cA, 10, .inl sm)), (m9, .inl (cA, 10, .inl hs)), (m10, .inl (cA, 64, .inl lt))]) [0, 1, 2, 3, 4, 5, 6, 7, 8, 9, 10] (by decide) rfl ?_
  refine j_if_eq (tgt := 32) F d_M_event_12 (by decide) (fun c_12 => ?_) (fun c_12 => ?_)
  · refine j_aloadn F d_M_event_32 0 rfl rfl ?_
    refine j_dup F d_M_event_33 rfl ?_
    refine j_get (ci := 6) (v := .int rf) F in_M hK 0 rfl rfl 3 (by decide) (wm k_469) rfl d_M_event_34 ?_
    refine j_iconst (v := nI 1) F d_M_event_37 (by decide) ?_
    refine j_iadd (v := rf + (nI 1)) F d_M_event_38 rfl ?_
    refine j_put (ci := 6) (v := .int (rf + (nI 1))) (ty := .int) (ws' := [(m0, .inr (6, [.int (nI 0), .int now, .int (nI n), .int (rf + (nI 1)), .ref m1, .ref m2, .ref m3, .ref m4, .ref m5, .ref m6, .ref m7, .ref m8, .ref m9, .ref m10])), (m1, .inl (cA, 80, .inl (X 0))), (m2, .inl (cA, 80, .inl (X 1))), (m3, .inl (cA, 80, .inl (X 2))), (m4, .inl (cA, 80, .inl (X 3))), (m5, .inl (cA, 80, .inl (X 4))), (m6, .inl (cA, 20, .inl sl)), (m7, .inl (cA, 10, .inl tt)), (m8, .inl (cA, 10, .inl sm)), (m9, .inl (cA, 10, .inl hs)), (m10, .inl (cA, 64, .inl lt))]) F in_M ty_M tk_M nm_M hK 0 rfl rfl 3 (by decide) (wm k_469) rfl (by decide +kernel) rfl rfl (Nat.le_of_ble_eq_true rfl) d_M_event_39 rfl ?_
    refine j_iconst (v := (-1)) F d_M_event_42 (by decide) ?_
    exact ret _ _ _ _ _ _ () d_M_event_43 rfl (by decide) (by decide) rfl rfl
  · have e1 := bI_1 c_12
    refine j_iload F d_M_event_15 4 rfl ?_
    refine j_goi (wc := []) (wr := [(m0, .inr (6, [.int (nI 0), .int now, .int (nI n), .int rf, .ref m1, .ref m2, .ref m3, .ref m4, .ref m5, .ref m6, .ref m7, .ref m8, .ref m9, .ref m10])), (m1, .inl (cA, 80, .inl (X 0))), (m2, .inl (cA, 80, .inl (X 1))), (m3, .inl (cA, 80, .inl (X 2))), (m4, .inl (cA, 80, .inl (X 3))), (m5, .inl (cA, 80, .inl (X 4))), (m6, .inl (cA, 20, .inl sl)), (m7, .inl (cA, 10, .inl tt)), (m8, .inl (cA, 10, .inl sm)), (m9, .inl (cA, 10, .inl hs)), (m10, .inl (cA, 64, .inl lt))]) hA [] [0, 1, 2, 3, 4, 5, 6, 7, 8, 9, 10] rfl rfl (by decide) (by decide) (fun H locs ls hP hD hl => va_runS (As := [.int v]) (rest := []) F (ct_M_isTime l D cA v H.size) ⟨callB_of 1 F.2.2.2.2 (gd k_528) rfl rfl rfl (F.2.2.2.2 _ (wm k_7)) (F.2.2.2.2 _ (wm k_526)) (by decide +kernel) ⟨by decide, by decide⟩, F.2.2.2.2 _ (wm k_527)⟩ (pre_S hK hN hP hD [] rfl (by decide)) rfl rfl hl.1 rfl (lv_room (Nat.le_of_ble_eq_true rfl)) d_M_event_17 ⟨by decide, by decide⟩) (fun r17 u17 hw17 => ?_)
    subst hw17
    refine j_ws (ws' := [(m0, .inr (6, [.int (nI 0), .int now, .int (nI n), .int rf, .ref m1, .ref m2, .ref m3, .ref m4, .ref m5, .ref m6, .ref m7, .ref m8, .ref m9, .ref m10])), (m1, .inl (cA, 80, .inl (X 0))), (m2, .inl (cA, 80, .inl (X 1))), (m3, .inl (cA, 80, .inl (X 2))), (m4, .inl (cA, 80, .inl (X 3))), (m5, .inl (cA, 80, .inl (X 4))), (m6, .inl (cA, 20, .inl sl)), (m7, .inl (cA, 10, .inl tt)), (m8, .inl (cA, 10, .inl sm)), (m9, .inl (cA, 10, .inl hs)), (m10, .inl (cA, 64, .inl lt))]) [0, 1, 2, 3, 4, 5, 6, 7, 8, 9, 10] (by decide) rfl ?_
    refine j_if_eq (tgt := 32) F d_M_event_20 (by decide) (fun c_20 => ?_) (fun c_20 => ?_)
    · refine j_aloadn F d_M_event_32 0 rfl rfl ?_
      refine j_dup F d_M_event_33 rfl ?_
      refine j_get (ci := 6) (v := .int rf) F in_M hK 0 rfl rfl 3 (by decide) (wm k_469) rfl d_M_event_34 ?_
      refine j_iconst (v := nI 1) F d_M_event_37 (by decide) ?_
      refine j_iadd (v := rf + (nI 1)) F d_M_event_38 rfl ?_
      refine j_put (ci := 6) (v := .int (rf + (nI 1))) (ty := .int) (ws' := [(m0, .inr (6, [.int (nI 0), .int now, .int (nI n), .int (rf + (nI 1)), .ref m1, .ref m2, .ref m3, .ref m4, .ref m5, .ref m6, .ref m7, .ref m8, .ref m9, .ref m10])), (m1, .inl (cA, 80, .inl (X 0))), (m2, .inl (cA, 80, .inl (X 1))), (m3, .inl (cA, 80, .inl (X 2))), (m4, .inl (cA, 80, .inl (X 3))), (m5, .inl (cA, 80, .inl (X 4))), (m6, .inl (cA, 20, .inl sl)), (m7, .inl (cA, 10, .inl tt)), (m8, .inl (cA, 10, .inl sm)), (m9, .inl (cA, 10, .inl hs)), (m10, .inl (cA, 64, .inl lt))]) F in_M ty_M tk_M nm_M hK 0 rfl rfl 3 (by decide) (wm k_469) rfl (by decide +kernel) rfl rfl (Nat.le_of_ble_eq_true rfl) d_M_event_39 rfl ?_
      refine j_iconst (v := (-1)) F d_M_event_42 (by decide) ?_
      exact ret _ _ _ _ _ _ () d_M_event_43 rfl (by decide) (by decide) rfl rfl
    · have e2 := bI_1 c_20
      refine j_aloadn F d_M_event_23 0 rfl rfl ?_
      refine j_get (ci := 6) (v := .int (nI n)) F in_M hK 0 rfl rfl 2 (by decide) (wm k_468) rfl d_M_event_24 ?_
      refine j_bipush (v := nI 80) F d_M_event_27 (by decide) ?_
      refine j_ic_ne (tgt := 44) F d_M_event_29 (by decide) (fun c_29 => ?_) (fun c_29 => ?_)
      · have c_29 : ¬ n = 80 := fun h => c_29 ((nI_eq (by omega) (by omega)).mpr h)
        exact absurd hok (by rw [e1, e2, decide_eq_false (show ¬ 80 ≤ n by omega)]; decide)
      · have c_29 : n = 80 := (nI_eq (by omega) (by omega)).mp c_29
        refine j_aloadn F d_M_event_32 0 rfl rfl ?_
        refine j_dup F d_M_event_33 rfl ?_
        refine j_get (ci := 6) (v := .int rf) F in_M hK 0 rfl rfl 3 (by decide) (wm k_469) rfl d_M_event_34 ?_
        refine j_iconst (v := nI 1) F d_M_event_37 (by decide) ?_
        refine j_iadd (v := rf + (nI 1)) F d_M_event_38 rfl ?_
        refine j_put (ci := 6) (v := .int (rf + (nI 1))) (ty := .int) (ws' := [(m0, .inr (6, [.int (nI 0), .int now, .int (nI n), .int (rf + (nI 1)), .ref m1, .ref m2, .ref m3, .ref m4, .ref m5, .ref m6, .ref m7, .ref m8, .ref m9, .ref m10])), (m1, .inl (cA, 80, .inl (X 0))), (m2, .inl (cA, 80, .inl (X 1))), (m3, .inl (cA, 80, .inl (X 2))), (m4, .inl (cA, 80, .inl (X 3))), (m5, .inl (cA, 80, .inl (X 4))), (m6, .inl (cA, 20, .inl sl)), (m7, .inl (cA, 10, .inl tt)), (m8, .inl (cA, 10, .inl sm)), (m9, .inl (cA, 10, .inl hs)), (m10, .inl (cA, 64, .inl lt))]) F in_M ty_M tk_M nm_M hK 0 rfl rfl 3 (by decide) (wm k_469) rfl (by decide +kernel) rfl rfl (Nat.le_of_ble_eq_true rfl) d_M_event_39 rfl ?_
        refine j_iconst (v := (-1)) F d_M_event_42 (by decide) ?_
        exact ret _ _ _ _ _ _ () d_M_event_43 rfl (by decide) (by decide) rfl rfl

def rm_M_known : Room := { frames := 1, cells := 0, slots := 0, locals := 22 }
set_option maxHeartbeats 4000000 in
set_option maxRecDepth 100000 in
theorem ct_M_known_ok (l : Launch) (D : va_G) (cA : ClassId) (m0 m1 m2 m3 m4 m5 m6 m7 m8 m9 m10 : Nat) (th now : Int32) (n : Nat) (rf : Int32) (X : AF) (sl tt sm hs lt : Nat → Int32) (hA0 : aok X n) (t : Int32) (hok : win t now (nI 10000) = true) : Ci (S := Unit) l y_M_known (Cond.code y_M_known c_M_known 2 (some .boolean) :: WD) rm_M_known D vwCl [(cA, .int)] nws [.ref m0, .int t] [(m0, .inr (6, [.int th, .int now, .int (nI n), .int rf, .ref m1, .ref m2, .ref m3, .ref m4, .ref m5, .ref m6, .ref m7, .ref m8, .ref m9, .ref m10])), (m1, .inl (cA, 80, .inl (X 0))), (m2, .inl (cA, 80, .inl (X 1))), (m3, .inl (cA, 80, .inl (X 2))), (m4, .inl (cA, 80, .inl (X 3))), (m5, .inl (cA, 80, .inl (X 4))), (m6, .inl (cA, 20, .inl sl)), (m7, .inl (cA, 10, .inl tt)), (m8, .inl (cA, 10, .inl sm)), (m9, .inl (cA, 10, .inl hs)), (m10, .inl (cA, 64, .inl lt))] 0 0 (fun r _ => r = bI true) (fun _ => [(m0, .inr (6, [.int (nI 0), .int t, .int (nI n), .int rf, .ref m1, .ref m2, .ref m3, .ref m4, .ref m5, .ref m6, .ref m7, .ref m8, .ref m9, .ref m10])), (m1, .inl (cA, 80, .inl (X 0))), (m2, .inl (cA, 80, .inl (X 1))), (m3, .inl (cA, 80, .inl (X 2))), (m4, .inl (cA, 80, .inl (X 3))), (m5, .inl (cA, 80, .inl (X 4))), (m6, .inl (cA, 20, .inl sl)), (m7, .inl (cA, 10, .inl tt)), (m8, .inl (cA, 10, .inl sm)), (m9, .inl (cA, 10, .inl hs)), (m10, .inl (cA, 64, .inl lt))]) := by
  refine Ci.of (cc := c_M_known) (nL := 2) (lv := [(0, .ref m0), (1, .int t)]) (by decide) rfl (Nat.le_of_ble_eq_true rfl) rfl ?_
  intro p e s m args below meth cd A Q F hK hN hA ret
  refine j_aloadn F d_M_known_0 0 rfl rfl ?_
  refine j_iconst (v := nI 0) F d_M_known_1 (by decide) ?_
  refine j_put (ci := 6) (v := .int (nI 0)) (ty := .int) (ws' := [(m0, .inr (6, [.int (nI 0), .int now, .int (nI n), .int rf, .ref m1, .ref m2, .ref m3, .ref m4, .ref m5, .ref m6, .ref m7, .ref m8, .ref m9, .ref m10])), (m1, .inl (cA, 80, .inl (X 0))), (m2, .inl (cA, 80, .inl (X 1))), (m3, .inl (cA, 80, .inl (X 2))), (m4, .inl (cA, 80, .inl (X 3))), (m5, .inl (cA, 80, .inl (X 4))), (m6, .inl (cA, 20, .inl sl)), (m7, .inl (cA, 10, .inl tt)), (m8, .inl (cA, 10, .inl sm)), (m9, .inl (cA, 10, .inl hs)), (m10, .inl (cA, 64, .inl lt))]) F in_M ty_M tk_M nm_M hK 0 rfl rfl 0 (by decide) (wm k_466) rfl (by decide +kernel) rfl rfl (Nat.le_of_ble_eq_true rfl) d_M_known_2 rfl ?_
  refine j_iloadn F d_M_known_5 1 rfl rfl ?_
  refine j_aloadn F d_M_known_6 0 rfl rfl ?_
  refine j_get (ci := 6) (v := .int now) F in_M hK 0 rfl rfl 1 (by decide) (wm k_467) rfl d_M_known_7 ?_
  refine j_sipush (v := nI 10000) F d_M_known_10 (by decide) ?_
  refine j_goi (wc := []) (wr := [(m0, .inr (6, [.int (nI 0), .int now, .int (nI n), .int rf, .ref m1, .ref m2, .ref m3, .ref m4, .ref m5, .ref m6, .ref m7, .ref m8, .ref m9, .ref m10])), (m1, .inl (cA, 80, .inl (X 0))), (m2, .inl (cA, 80, .inl (X 1))), (m3, .inl (cA, 80, .inl (X 2))), (m4, .inl (cA, 80, .inl (X 3))), (m5, .inl (cA, 80, .inl (X 4))), (m6, .inl (cA, 20, .inl sl)), (m7, .inl (cA, 10, .inl tt)), (m8, .inl (cA, 10, .inl sm)), (m9, .inl (cA, 10, .inl hs)), (m10, .inl (cA, 64, .inl lt))]) hA [] [0, 1, 2, 3, 4, 5, 6, 7, 8, 9, 10] rfl rfl (by decide) (by decide) (fun H locs ls hP hD hl => va_runS (As := [.int t, .int now, .int (nI 10000)]) (rest := []) F (ct_M_in l D cA t now (nI 10000) H.size) ⟨callB_of 3 F.2.2.2.2 (gd k_523) rfl rfl rfl (F.2.2.2.2 _ (wm k_7)) (F.2.2.2.2 _ (wm k_521)) (by decide +kernel) ⟨by decide, by decide⟩, F.2.2.2.2 _ (wm k_522)⟩ (pre_S hK hN hP hD [] rfl (by decide)) rfl rfl hl.1 rfl (lv_room (Nat.le_of_ble_eq_true rfl)) d_M_known_13 ⟨by decide, by decide⟩) (fun r13 u13 hw13 => ?_)
  subst hw13
  refine j_ws (ws' := [(m0, .inr (6, [.int (nI 0), .int now, .int (nI n), .int rf, .ref m1, .ref m2, .ref m3, .ref m4, .ref m5, .ref m6, .ref m7, .ref m8, .ref m9, .ref m10])), (m1, .inl (cA, 80, .inl (X 0))), (m2, .inl (cA, 80, .inl (X 1))), (m3, .inl (cA, 80, .inl (X 2))), (m4, .inl (cA, 80, .inl (X 3))), (m5, .inl (cA, 80, .inl (X 4))), (m6, .inl (cA, 20, .inl sl)), (m7, .inl (cA, 10, .inl tt)), (m8, .inl (cA, 10, .inl sm)), (m9, .inl (cA, 10, .inl hs)), (m10, .inl (cA, 64, .inl lt))]) [0, 1, 2, 3, 4, 5, 6, 7, 8, 9, 10] (by decide) rfl ?_
  refine j_if_ne (tgt := 31) F d_M_known_16 (by decide) (fun c_16 => ?_) (fun c_16 => ?_)
  · refine j_aloadn F d_M_known_31 0 rfl rfl ?_
    refine j_iloadn F d_M_known_32 1 rfl rfl ?_
    refine j_put (ci := 6) (v := .int t) (ty := .int) (ws' := [(m0, .inr (6, [.int (nI 0), .int t, .int (nI n), .int rf, .ref m1, .ref m2, .ref m3, .ref m4, .ref m5, .ref m6, .ref m7, .ref m8, .ref m9, .ref m10])), (m1, .inl (cA, 80, .inl (X 0))), (m2, .inl (cA, 80, .inl (X 1))), (m3, .inl (cA, 80, .inl (X 2))), (m4, .inl (cA, 80, .inl (X 3))), (m5, .inl (cA, 80, .inl (X 4))), (m6, .inl (cA, 20, .inl sl)), (m7, .inl (cA, 10, .inl tt)), (m8, .inl (cA, 10, .inl sm)), (m9, .inl (cA, 10, .inl hs)), (m10, .inl (cA, 64, .inl lt))]) F in_M ty_M tk_M nm_M hK 0 rfl rfl 1 (by decide) (wm k_467) rfl (by decide +kernel) rfl rfl (Nat.le_of_ble_eq_true rfl) d_M_known_33 rfl ?_
    refine j_iconst (v := nI 1) F d_M_known_36 (by decide) ?_
    exact ret _ _ _ _ _ _ () d_M_known_37 rfl (by decide) (by decide) rfl rfl
  · exact absurd (bI_0 c_16) (by rw [hok]; decide)

set_option maxHeartbeats 4000000 in
set_option maxRecDepth 100000 in
theorem ct_M_known_no (l : Launch) (D : va_G) (cA : ClassId) (m0 m1 m2 m3 m4 m5 m6 m7 m8 m9 m10 : Nat) (th now : Int32) (n : Nat) (rf : Int32) (X : AF) (sl tt sm hs lt : Nat → Int32) (hA0 : aok X n) (t : Int32) (hok : win t now (nI 10000) = false) : Ci (S := Unit) l y_M_known (Cond.code y_M_known c_M_known 2 (some .boolean) :: WD) rm_M_known D vwCl [(cA, .int)] nws [.ref m0, .int t] [(m0, .inr (6, [.int th, .int now, .int (nI n), .int rf, .ref m1, .ref m2, .ref m3, .ref m4, .ref m5, .ref m6, .ref m7, .ref m8, .ref m9, .ref m10])), (m1, .inl (cA, 80, .inl (X 0))), (m2, .inl (cA, 80, .inl (X 1))), (m3, .inl (cA, 80, .inl (X 2))), (m4, .inl (cA, 80, .inl (X 3))), (m5, .inl (cA, 80, .inl (X 4))), (m6, .inl (cA, 20, .inl sl)), (m7, .inl (cA, 10, .inl tt)), (m8, .inl (cA, 10, .inl sm)), (m9, .inl (cA, 10, .inl hs)), (m10, .inl (cA, 64, .inl lt))] 0 0 (fun r _ => r = bI false) (fun _ => [(m0, .inr (6, [.int (nI 0), .int now, .int (nI n), .int (rf + nI 1), .ref m1, .ref m2, .ref m3, .ref m4, .ref m5, .ref m6, .ref m7, .ref m8, .ref m9, .ref m10])), (m1, .inl (cA, 80, .inl (X 0))), (m2, .inl (cA, 80, .inl (X 1))), (m3, .inl (cA, 80, .inl (X 2))), (m4, .inl (cA, 80, .inl (X 3))), (m5, .inl (cA, 80, .inl (X 4))), (m6, .inl (cA, 20, .inl sl)), (m7, .inl (cA, 10, .inl tt)), (m8, .inl (cA, 10, .inl sm)), (m9, .inl (cA, 10, .inl hs)), (m10, .inl (cA, 64, .inl lt))]) := by
  refine Ci.of (cc := c_M_known) (nL := 2) (lv := [(0, .ref m0), (1, .int t)]) (by decide) rfl (Nat.le_of_ble_eq_true rfl) rfl ?_
  intro p e s m args below meth cd A Q F hK hN hA ret
  refine j_aloadn F d_M_known_0 0 rfl rfl ?_
  refine j_iconst (v := nI 0) F d_M_known_1 (by decide) ?_
  refine j_put (ci := 6) (v := .int (nI 0)) (ty := .int) (ws' := [(m0, .inr (6, [.int (nI 0), .int now, .int (nI n), .int rf, .ref m1, .ref m2, .ref m3, .ref m4, .ref m5, .ref m6, .ref m7, .ref m8, .ref m9, .ref m10])), (m1, .inl (cA, 80, .inl (X 0))), (m2, .inl (cA, 80, .inl (X 1))), (m3, .inl (cA, 80, .inl (X 2))), (m4, .inl (cA, 80, .inl (X 3))), (m5, .inl (cA, 80, .inl (X 4))), (m6, .inl (cA, 20, .inl sl)), (m7, .inl (cA, 10, .inl tt)), (m8, .inl (cA, 10, .inl sm)), (m9, .inl (cA, 10, .inl hs)), (m10, .inl (cA, 64, .inl lt))]) F in_M ty_M tk_M nm_M hK 0 rfl rfl 0 (by decide) (wm k_466) rfl (by decide +kernel) rfl rfl (Nat.le_of_ble_eq_true rfl) d_M_known_2 rfl ?_
  refine j_iloadn F d_M_known_5 1 rfl rfl ?_
  refine j_aloadn F d_M_known_6 0 rfl rfl ?_
  refine j_get (ci := 6) (v := .int now) F in_M hK 0 rfl rfl 1 (by decide) (wm k_467) rfl d_M_known_7 ?_
  refine j_sipush (v := nI 10000) F d_M_known_10 (by decide) ?_
  refine j_goi (wc := []) (wr := [(m0, .inr (6, [.int (nI 0), .int now, .int (nI n), .int rf, .ref m1, .ref m2, .ref m3, .ref m4, .ref m5, .ref m6, .ref m7, .ref m8, .ref m9, .ref m10])), (m1, .inl (cA, 80, .inl (X 0))), (m2, .inl (cA, 80, .inl (X 1))), (m3, .inl (cA, 80, .inl (X 2))), (m4, .inl (cA, 80, .inl (X 3))), (m5, .inl (cA, 80, .inl (X 4))), (m6, .inl (cA, 20, .inl sl)), (m7, .inl (cA, 10, .inl tt)), (m8, .inl (cA, 10, .inl sm)), (m9, .inl (cA, 10, .inl hs)), (m10, .inl (cA, 64, .inl lt))]) hA [] [0, 1, 2, 3, 4, 5, 6, 7, 8, 9, 10] rfl rfl (by decide) (by decide) (fun H locs ls hP hD hl => va_runS (As := [.int t, .int now, .int (nI 10000)]) (rest := []) F (ct_M_in l D cA t now (nI 10000) H.size) ⟨callB_of 3 F.2.2.2.2 (gd k_523) rfl rfl rfl (F.2.2.2.2 _ (wm k_7)) (F.2.2.2.2 _ (wm k_521)) (by decide +kernel) ⟨by decide, by decide⟩, F.2.2.2.2 _ (wm k_522)⟩ (pre_S hK hN hP hD [] rfl (by decide)) rfl rfl hl.1 rfl (lv_room (Nat.le_of_ble_eq_true rfl)) d_M_known_13 ⟨by decide, by decide⟩) (fun r13 u13 hw13 => ?_)
  subst hw13
  refine j_ws (ws' := [(m0, .inr (6, [.int (nI 0), .int now, .int (nI n), .int rf, .ref m1, .ref m2, .ref m3, .ref m4, .ref m5, .ref m6, .ref m7, .ref m8, .ref m9, .ref m10])), (m1, .inl (cA, 80, .inl (X 0))), (m2, .inl (cA, 80, .inl (X 1))), (m3, .inl (cA, 80, .inl (X 2))), (m4, .inl (cA, 80, .inl (X 3))), (m5, .inl (cA, 80, .inl (X 4))), (m6, .inl (cA, 20, .inl sl)), (m7, .inl (cA, 10, .inl tt)), (m8, .inl (cA, 10, .inl sm)), (m9, .inl (cA, 10, .inl hs)), (m10, .inl (cA, 64, .inl lt))]) [0, 1, 2, 3, 4, 5, 6, 7, 8, 9, 10] (by decide) rfl ?_
  refine j_if_ne (tgt := 31) F d_M_known_16 (by decide) (fun c_16 => ?_) (fun c_16 => ?_)
  · exact absurd (bI_1 c_16) (by rw [hok]; decide)
  · refine j_aloadn F d_M_known_19 0 rfl rfl ?_
    refine j_dup F d_M_known_20 rfl ?_
    refine j_get (ci := 6) (v := .int rf) F in_M hK 0 rfl rfl 3 (by decide) (wm k_469) rfl d_M_known_21 ?_
    refine j_iconst (v := nI 1) F d_M_known_24 (by decide) ?_
    refine j_iadd (v := rf + (nI 1)) F d_M_known_25 rfl ?_
    refine j_put (ci := 6) (v := .int (rf + (nI 1))) (ty := .int) (ws' := [(m0, .inr (6, [.int (nI 0), .int now, .int (nI n), .int (rf + (nI 1)), .ref m1, .ref m2, .ref m3, .ref m4, .ref m5, .ref m6, .ref m7, .ref m8, .ref m9, .ref m10])), (m1, .inl (cA, 80, .inl (X 0))), (m2, .inl (cA, 80, .inl (X 1))), (m3, .inl (cA, 80, .inl (X 2))), (m4, .inl (cA, 80, .inl (X 3))), (m5, .inl (cA, 80, .inl (X 4))), (m6, .inl (cA, 20, .inl sl)), (m7, .inl (cA, 10, .inl tt)), (m8, .inl (cA, 10, .inl sm)), (m9, .inl (cA, 10, .inl hs)), (m10, .inl (cA, 64, .inl lt))]) F in_M ty_M tk_M nm_M hK 0 rfl rfl 3 (by decide) (wm k_469) rfl (by decide +kernel) rfl rfl (Nat.le_of_ble_eq_true rfl) d_M_known_26 rfl ?_
    refine j_iconst (v := nI 0) F d_M_known_29 (by decide) ?_
    exact ret _ _ _ _ _ _ () d_M_known_30 rfl (by decide) (by decide) rfl rfl

def rm_M_isVoid : Room := { frames := 0, cells := 0, slots := 0, locals := 0 }
set_option maxHeartbeats 4000000 in
set_option maxRecDepth 100000 in
theorem ct_M_isVoid (l : Launch) (D : va_G) (cA : ClassId) (m0 m1 m2 m3 m4 m5 m6 m7 m8 m9 m10 : Nat) (th now : Int32) (n : Nat) (rf : Int32) (X : AF) (sl tt sm hs lt : Nat → Int32) (hA0 : aok X n) (e0 : Nat) (he0 : e0 < n) (k : Int32) : Ci (S := Unit) l y_M_isVoid (Cond.code y_M_isVoid c_M_isVoid 5 (some .boolean) :: WD) rm_M_isVoid D vwCl [(cA, .int)] nws [.ref m0, .int (nI e0), .int k] [(m0, .inr (6, [.int th, .int now, .int (nI n), .int rf, .ref m1, .ref m2, .ref m3, .ref m4, .ref m5, .ref m6, .ref m7, .ref m8, .ref m9, .ref m10])), (m1, .inl (cA, 80, .inl (X 0))), (m2, .inl (cA, 80, .inl (X 1))), (m3, .inl (cA, 80, .inl (X 2))), (m4, .inl (cA, 80, .inl (X 3))), (m5, .inl (cA, 80, .inl (X 4))), (m6, .inl (cA, 20, .inl sl)), (m7, .inl (cA, 10, .inl tt)), (m8, .inl (cA, 10, .inl sm)), (m9, .inl (cA, 10, .inl hs)), (m10, .inl (cA, 64, .inl lt))] 0 0 (fun r _ => r = bI (vdB X n e0 k)) (fun _ => [(m0, .inr (6, [.int th, .int now, .int (nI n), .int rf, .ref m1, .ref m2, .ref m3, .ref m4, .ref m5, .ref m6, .ref m7, .ref m8, .ref m9, .ref m10])), (m1, .inl (cA, 80, .inl (X 0))), (m2, .inl (cA, 80, .inl (X 1))), (m3, .inl (cA, 80, .inl (X 2))), (m4, .inl (cA, 80, .inl (X 3))), (m5, .inl (cA, 80, .inl (X 4))), (m6, .inl (cA, 20, .inl sl)), (m7, .inl (cA, 10, .inl tt)), (m8, .inl (cA, 10, .inl sm)), (m9, .inl (cA, 10, .inl hs)), (m10, .inl (cA, 64, .inl lt))]) := by
  refine Ci.of (cc := c_M_isVoid) (nL := 5) (lv := [(0, .ref m0), (1, .int (nI e0)), (2, .int k)]) (by decide) rfl (Nat.le_of_ble_eq_true rfl) rfl ?_
  intro p e s m args below meth cd A Q F hK hN hA ret
  have h80 := hA0.1
  refine j_iconst (v := nI 0) F d_M_isVoid_0 (by decide) ?_
  refine j_istoren (lv' := [(3, .int (nI 0)), (0, .ref m0), (1, .int (nI e0)), (2, .int k)]) F d_M_isVoid_1 rfl (by decide) rfl ?_
  refine j_iconst (v := nI 0) F d_M_isVoid_2 (by decide) ?_
  refine j_istore (lv' := [(4, .int (nI 0)), (3, .int (nI 0)), (0, .ref m0), (1, .int (nI e0)), (2, .int k)]) F d_M_isVoid_3 (by decide) rfl ?_
  have loop5 : ∀ (fuel : Nat) (i : Nat) (hfuel5 : n - i < fuel) (hi : i ≤ n), J p l e rm_M_isVoid s m args below meth cd D vwCl A s.heap 5 0 0 Q [(m0, .inr (6, [.int th, .int now, .int (nI n), .int rf, .ref m1, .ref m2, .ref m3, .ref m4, .ref m5, .ref m6, .ref m7, .ref m8, .ref m9, .ref m10])), (m1, .inl (cA, 80, .inl (X 0))), (m2, .inl (cA, 80, .inl (X 1))), (m3, .inl (cA, 80, .inl (X 2))), (m4, .inl (cA, 80, .inl (X 3))), (m5, .inl (cA, 80, .inl (X 4))), (m6, .inl (cA, 20, .inl sl)), (m7, .inl (cA, 10, .inl tt)), (m8, .inl (cA, 10, .inl sm)), (m9, .inl (cA, 10, .inl hs)), (m10, .inl (cA, 64, .inl lt))] [(0, .ref m0), (1, .int (nI e0)), (2, .int k), (3, .int (bI (vdB X i e0 k))), (4, .int (nI i))] 5 [] := by
    intro fuel
    induction fuel with
    | zero => intro i hfuel; exact absurd hfuel (Nat.not_lt_zero _)
    | succ fuel ih5 =>
      intro i hfuel5 hi
      refine j_iload F d_M_isVoid_5 4 rfl ?_
      refine j_aloadn F d_M_isVoid_7 0 rfl rfl ?_
      refine j_get (ci := 6) (v := .int (nI n)) F in_M hK 0 rfl rfl 2 (by decide) (wm k_468) rfl d_M_isVoid_8 ?_
      refine j_ic_ge (tgt := 63) F d_M_isVoid_11 (by decide) (fun c_11 => ?_) (fun c_11 => ?_)
      · have c_11 : n ≤ i := (nI_leI (by omega) (by omega)).mp c_11
        have hin : i = n := by omega
        subst hin
        refine j_iloadn F d_M_isVoid_63 3 rfl rfl ?_
        exact ret _ _ _ _ _ _ () d_M_isVoid_64 (bI_nar _) (by decide) (by decide) rfl rfl
      · have c_11 : ¬ n ≤ i := fun h => c_11 ((nI_leI (by omega) (by omega)).mpr h)
        refine j_iloadn F d_M_isVoid_14 3 rfl rfl ?_
        refine j_if_ne (tgt := 51) F d_M_isVoid_15 (by decide) (fun c_15 => ?_) (fun c_15 => ?_)
        · refine j_iconst (v := nI 1) F d_M_isVoid_51 (by decide) ?_
          refine j_goto (tgt := 56) F d_M_isVoid_52 (by decide) ?_
          refine j_top (y := bI (vdB X (i + 1) e0 k)) (bI_t (by rw [vdB_s, bI_1 c_15]; rfl)) ?_
          refine j_istoren (lv' := [(3, .int (bI (vdB X (i + 1) e0 k))), (0, .ref m0), (1, .int (nI e0)), (2, .int k), (4, .int (nI i))]) F d_M_isVoid_56 rfl (by decide) rfl ?_
          refine j_iinc (v := nI (i + 1)) (lv' := [(4, .int (nI (i + 1))), (3, .int (bI (vdB X (i + 1) e0 k))), (0, .ref m0), (1, .int (nI e0)), (2, .int k)]) F d_M_isVoid_57 4 rfl (jn_inc i) (by decide) rfl ?_
          refine j_goto (tgt := 5) F d_M_isVoid_60 (by decide) ?_
          refine j_lv (lv' := [(0, .ref m0), (1, .int (nI e0)), (2, .int k), (3, .int (bI (vdB X (i + 1) e0 k))), (4, .int (nI (i + 1)))]) [2, 3, 4, 1, 0] rfl ?_
          exact ih5 (i + 1) (by omega) (by omega)
        · refine j_aloadn F d_M_isVoid_18 0 rfl rfl ?_
          refine j_get (ci := 6) (v := .ref m1) F in_M hK 0 rfl rfl 4 (by decide) (wm k_470) rfl d_M_isVoid_19 ?_
          refine j_iload F d_M_isVoid_22 4 rfl ?_
          refine j_iald (v := (X 0) i) F hK 1 0 rfl rfl (by omega) (by decide) d_M_isVoid_24 rfl ?_
          refine j_iconst (v := nI 5) F d_M_isVoid_25 (by decide) ?_
          refine j_ic_ne (tgt := 55) F d_M_isVoid_26 (by decide) (fun c_26 => ?_) (fun c_26 => ?_)
          · refine j_iconst (v := nI 0) F d_M_isVoid_55 (by decide) ?_
            refine j_top (y := bI (vdB X (i + 1) e0 k)) (bI_f (by rw [vdB_s, bI_0 c_15, vdc_f0 c_26]; rfl)) ?_
            refine j_istoren (lv' := [(3, .int (bI (vdB X (i + 1) e0 k))), (0, .ref m0), (1, .int (nI e0)), (2, .int k), (4, .int (nI i))]) F d_M_isVoid_56 rfl (by decide) rfl ?_
            refine j_iinc (v := nI (i + 1)) (lv' := [(4, .int (nI (i + 1))), (3, .int (bI (vdB X (i + 1) e0 k))), (0, .ref m0), (1, .int (nI e0)), (2, .int k)]) F d_M_isVoid_57 4 rfl (jn_inc i) (by decide) rfl ?_
            refine j_goto (tgt := 5) F d_M_isVoid_60 (by decide) ?_
            refine j_lv (lv' := [(0, .ref m0), (1, .int (nI e0)), (2, .int k), (3, .int (bI (vdB X (i + 1) e0 k))), (4, .int (nI (i + 1)))]) [2, 3, 4, 1, 0] rfl ?_
            exact ih5 (i + 1) (by omega) (by omega)
          · refine j_aloadn F d_M_isVoid_29 0 rfl rfl ?_
            refine j_get (ci := 6) (v := .ref m2) F in_M hK 0 rfl rfl 5 (by decide) (wm k_471) rfl d_M_isVoid_30 ?_
            refine j_iload F d_M_isVoid_33 4 rfl ?_
            refine j_iald (v := (X 1) i) F hK 2 0 rfl rfl (by omega) (by decide) d_M_isVoid_35 rfl ?_
            refine j_iloadn F d_M_isVoid_36 1 rfl rfl ?_
            refine j_ic_ne (tgt := 55) F d_M_isVoid_37 (by decide) (fun c_37 => ?_) (fun c_37 => ?_)
            · refine j_iconst (v := nI 0) F d_M_isVoid_55 (by decide) ?_
              refine j_top (y := bI (vdB X (i + 1) e0 k)) (bI_f (by rw [vdB_s, bI_0 c_15, vdc_f1 c_37]; rfl)) ?_
              refine j_istoren (lv' := [(3, .int (bI (vdB X (i + 1) e0 k))), (0, .ref m0), (1, .int (nI e0)), (2, .int k), (4, .int (nI i))]) F d_M_isVoid_56 rfl (by decide) rfl ?_
              refine j_iinc (v := nI (i + 1)) (lv' := [(4, .int (nI (i + 1))), (3, .int (bI (vdB X (i + 1) e0 k))), (0, .ref m0), (1, .int (nI e0)), (2, .int k)]) F d_M_isVoid_57 4 rfl (jn_inc i) (by decide) rfl ?_
              refine j_goto (tgt := 5) F d_M_isVoid_60 (by decide) ?_
              refine j_lv (lv' := [(0, .ref m0), (1, .int (nI e0)), (2, .int k), (3, .int (bI (vdB X (i + 1) e0 k))), (4, .int (nI (i + 1)))]) [2, 3, 4, 1, 0] rfl ?_
              exact ih5 (i + 1) (by omega) (by omega)
            · refine j_aloadn F d_M_isVoid_40 0 rfl rfl ?_
              refine j_get (ci := 6) (v := .ref m5) F in_M hK 0 rfl rfl 8 (by decide) (wm k_474) rfl d_M_isVoid_41 ?_
              refine j_iload F d_M_isVoid_44 4 rfl ?_
              refine j_iald (v := (X 4) i) F hK 5 0 rfl rfl (by omega) (by decide) d_M_isVoid_46 rfl ?_
              refine j_iloadn F d_M_isVoid_47 2 rfl rfl ?_
              refine j_ic_gt (tgt := 55) F d_M_isVoid_48 (by decide) (fun c_48 => ?_) (fun c_48 => ?_)
              · refine j_iconst (v := nI 0) F d_M_isVoid_55 (by decide) ?_
                refine j_top (y := bI (vdB X (i + 1) e0 k)) (bI_f (by rw [vdB_s, bI_0 c_15, vdc_f4 (fun h => jn_no c_48 h)]; rfl)) ?_
                refine j_istoren (lv' := [(3, .int (bI (vdB X (i + 1) e0 k))), (0, .ref m0), (1, .int (nI e0)), (2, .int k), (4, .int (nI i))]) F d_M_isVoid_56 rfl (by decide) rfl ?_
                refine j_iinc (v := nI (i + 1)) (lv' := [(4, .int (nI (i + 1))), (3, .int (bI (vdB X (i + 1) e0 k))), (0, .ref m0), (1, .int (nI e0)), (2, .int k)]) F d_M_isVoid_57 4 rfl (jn_inc i) (by decide) rfl ?_
                refine j_goto (tgt := 5) F d_M_isVoid_60 (by decide) ?_
                refine j_lv (lv' := [(0, .ref m0), (1, .int (nI e0)), (2, .int k), (3, .int (bI (vdB X (i + 1) e0 k))), (4, .int (nI (i + 1)))]) [2, 3, 4, 1, 0] rfl ?_
                exact ih5 (i + 1) (by omega) (by omega)
              · refine j_iconst (v := nI 1) F d_M_isVoid_51 (by decide) ?_
                refine j_goto (tgt := 56) F d_M_isVoid_52 (by decide) ?_
                refine j_top (y := bI (vdB X (i + 1) e0 k)) (bI_t (by rw [vdB_s, vdc_t c_26 c_37 (jn_nlt c_48), Bool.or_true])) ?_
                refine j_istoren (lv' := [(3, .int (bI (vdB X (i + 1) e0 k))), (0, .ref m0), (1, .int (nI e0)), (2, .int k), (4, .int (nI i))]) F d_M_isVoid_56 rfl (by decide) rfl ?_
                refine j_iinc (v := nI (i + 1)) (lv' := [(4, .int (nI (i + 1))), (3, .int (bI (vdB X (i + 1) e0 k))), (0, .ref m0), (1, .int (nI e0)), (2, .int k)]) F d_M_isVoid_57 4 rfl (jn_inc i) (by decide) rfl ?_
                refine j_goto (tgt := 5) F d_M_isVoid_60 (by decide) ?_
                refine j_lv (lv' := [(0, .ref m0), (1, .int (nI e0)), (2, .int k), (3, .int (bI (vdB X (i + 1) e0 k))), (4, .int (nI (i + 1)))]) [2, 3, 4, 1, 0] rfl ?_
                exact ih5 (i + 1) (by omega) (by omega)
  refine j_lv (lv' := [(0, .ref m0), (1, .int (nI e0)), (2, .int k), (3, .int (nI 0)), (4, .int (nI 0))]) [2, 3, 4, 1, 0] rfl ?_
  exact loop5 (n + 1) 0 (by omega) (by omega)

def rm_M_counts : Room := { frames := 1, cells := 0, slots := 0, locals := 24 }
set_option maxHeartbeats 4000000 in
set_option maxRecDepth 100000 in
theorem ct_M_counts (l : Launch) (D : va_G) (cA : ClassId) (m0 m1 m2 m3 m4 m5 m6 m7 m8 m9 m10 : Nat) (th now : Int32) (n : Nat) (rf : Int32) (X : AF) (sl tt sm hs lt : Nat → Int32) (hA0 : aok X n) (e0 : Nat) (he0 : e0 < n) (t k : Int32) : Ci (S := Unit) l y_M_counts (Cond.code y_M_counts c_M_counts 4 (some .boolean) :: WD) rm_M_counts D vwCl [(cA, .int)] nws [.ref m0, .int (nI e0), .int t, .int k] [(m0, .inr (6, [.int th, .int now, .int (nI n), .int rf, .ref m1, .ref m2, .ref m3, .ref m4, .ref m5, .ref m6, .ref m7, .ref m8, .ref m9, .ref m10])), (m1, .inl (cA, 80, .inl (X 0))), (m2, .inl (cA, 80, .inl (X 1))), (m3, .inl (cA, 80, .inl (X 2))), (m4, .inl (cA, 80, .inl (X 3))), (m5, .inl (cA, 80, .inl (X 4))), (m6, .inl (cA, 20, .inl sl)), (m7, .inl (cA, 10, .inl tt)), (m8, .inl (cA, 10, .inl sm)), (m9, .inl (cA, 10, .inl hs)), (m10, .inl (cA, 64, .inl lt))] 0 0 (fun r _ => r = bI (hdB X n t k e0)) (fun _ => [(m0, .inr (6, [.int th, .int now, .int (nI n), .int rf, .ref m1, .ref m2, .ref m3, .ref m4, .ref m5, .ref m6, .ref m7, .ref m8, .ref m9, .ref m10])), (m1, .inl (cA, 80, .inl (X 0))), (m2, .inl (cA, 80, .inl (X 1))), (m3, .inl (cA, 80, .inl (X 2))), (m4, .inl (cA, 80, .inl (X 3))), (m5, .inl (cA, 80, .inl (X 4))), (m6, .inl (cA, 20, .inl sl)), (m7, .inl (cA, 10, .inl tt)), (m8, .inl (cA, 10, .inl sm)), (m9, .inl (cA, 10, .inl hs)), (m10, .inl (cA, 64, .inl lt))]) := by
  refine Ci.of (cc := c_M_counts) (nL := 4) (lv := [(0, .ref m0), (1, .int (nI e0)), (2, .int t), (3, .int k)]) (by decide) rfl (Nat.le_of_ble_eq_true rfl) rfl ?_
  intro p e s m args below meth cd A Q F hK hN hA ret
  have h80 := hA0.1
  refine j_aloadn F d_M_counts_0 0 rfl rfl ?_
  refine j_get (ci := 6) (v := .ref m1) F in_M hK 0 rfl rfl 4 (by decide) (wm k_470) rfl d_M_counts_1 ?_
  refine j_iloadn F d_M_counts_4 1 rfl rfl ?_
  refine j_iald (v := (X 0) e0) F hK 1 0 rfl rfl (by omega) (by decide) d_M_counts_5 rfl ?_
  refine j_iconst (v := nI 5) F d_M_counts_6 (by decide) ?_
  refine j_ic_eq (tgt := 43) F d_M_counts_7 (by decide) (fun c_7 => ?_) (fun c_7 => ?_)
  · refine j_iconst (v := nI 0) F d_M_counts_43 (by decide) ?_
    exact ret _ _ _ _ _ _ () d_M_counts_44 rfl (by decide) (by decide) rfl (bI_f (by unfold hdB; rw [decide_eq_true c_7]; rfl))
  · refine j_aloadn F d_M_counts_10 0 rfl rfl ?_
    refine j_get (ci := 6) (v := .ref m4) F in_M hK 0 rfl rfl 7 (by decide) (wm k_473) rfl d_M_counts_11 ?_
    refine j_iloadn F d_M_counts_14 1 rfl rfl ?_
    refine j_iald (v := (X 3) e0) F hK 4 0 rfl rfl (by omega) (by decide) d_M_counts_15 rfl ?_
    refine j_iloadn F d_M_counts_16 2 rfl rfl ?_
    refine j_ic_gt (tgt := 43) F d_M_counts_17 (by decide) (fun c_17 => ?_) (fun c_17 => ?_)
    · refine j_iconst (v := nI 0) F d_M_counts_43 (by decide) ?_
      exact ret _ _ _ _ _ _ () d_M_counts_44 rfl (by decide) (by decide) rfl (bI_f (by unfold hdB; rw [decide_eq_false (fun h => jn_no c_17 h), Bool.false_and, Bool.and_false]))
    · refine j_aloadn F d_M_counts_20 0 rfl rfl ?_
      refine j_get (ci := 6) (v := .ref m5) F in_M hK 0 rfl rfl 8 (by decide) (wm k_474) rfl d_M_counts_21 ?_
      refine j_iloadn F d_M_counts_24 1 rfl rfl ?_
      refine j_iald (v := (X 4) e0) F hK 5 0 rfl rfl (by omega) (by decide) d_M_counts_25 rfl ?_
      refine j_iloadn F d_M_counts_26 3 rfl rfl ?_
      refine j_ic_gt (tgt := 43) F d_M_counts_27 (by decide) (fun c_27 => ?_) (fun c_27 => ?_)
      · refine j_iconst (v := nI 0) F d_M_counts_43 (by decide) ?_
        exact ret _ _ _ _ _ _ () d_M_counts_44 rfl (by decide) (by decide) rfl (bI_f (by unfold hdB; rw [decide_eq_false (p := X 4 e0 ≤ k) (fun h => jn_no c_27 h), Bool.false_and, Bool.and_false, Bool.and_false]))
      · refine j_aloadn F d_M_counts_30 0 rfl rfl ?_
        refine j_iloadn F d_M_counts_31 1 rfl rfl ?_
        refine j_iloadn F d_M_counts_32 3 rfl rfl ?_
        refine j_goi (wc := [(m0, .inr (6, [.int th, .int now, .int (nI n), .int rf, .ref m1, .ref m2, .ref m3, .ref m4, .ref m5, .ref m6, .ref m7, .ref m8, .ref m9, .ref m10])), (m1, .inl (cA, 80, .inl (X 0))), (m2, .inl (cA, 80, .inl (X 1))), (m3, .inl (cA, 80, .inl (X 2))), (m4, .inl (cA, 80, .inl (X 3))), (m5, .inl (cA, 80, .inl (X 4))), (m6, .inl (cA, 20, .inl sl)), (m7, .inl (cA, 10, .inl tt)), (m8, .inl (cA, 10, .inl sm)), (m9, .inl (cA, 10, .inl hs)), (m10, .inl (cA, 64, .inl lt))]) (wr := []) hA [0, 1, 2, 3, 4, 5, 6, 7, 8, 9, 10] [] rfl rfl (by decide) (by decide) (fun H locs ls hP hD hl => va_runV (As := [.int (nI e0), .int k]) (rest := []) F (ct_M_isVoid l D cA m0 m1 m2 m3 m4 m5 m6 m7 m8 m9 m10 th now n rf X sl tt sm hs lt hA0 e0 (by omega) k  H.size) ⟨callB_of 2 F.2.2.2.2 (gd k_556) rfl rfl rfl (F.2.2.2.2 _ (wm k_7)) (F.2.2.2.2 _ (wm k_553)) (by decide +kernel) ⟨by decide, by decide⟩, F.2.2.2.2 _ (wm k_555), F.2.2.2.2 _ (wm ks_30)⟩ (pre_V rfl hK hN hP hD [0, 1, 2, 3, 4, 5, 6, 7, 8, 9, 10] rfl (by decide) 0 rfl rfl) rfl rfl hl.1 rfl (lv_room (Nat.le_of_ble_eq_true rfl)) d_M_counts_33 ⟨by decide, by decide⟩) (fun r33 u33 hw33 => ?_)
        subst hw33
        refine j_ws (ws' := [(m0, .inr (6, [.int th, .int now, .int (nI n), .int rf, .ref m1, .ref m2, .ref m3, .ref m4, .ref m5, .ref m6, .ref m7, .ref m8, .ref m9, .ref m10])), (m1, .inl (cA, 80, .inl (X 0))), (m2, .inl (cA, 80, .inl (X 1))), (m3, .inl (cA, 80, .inl (X 2))), (m4, .inl (cA, 80, .inl (X 3))), (m5, .inl (cA, 80, .inl (X 4))), (m6, .inl (cA, 20, .inl sl)), (m7, .inl (cA, 10, .inl tt)), (m8, .inl (cA, 10, .inl sm)), (m9, .inl (cA, 10, .inl hs)), (m10, .inl (cA, 64, .inl lt))]) [0, 1, 2, 3, 4, 5, 6, 7, 8, 9, 10] (by decide) rfl ?_
        refine j_if_ne (tgt := 43) F d_M_counts_36 (by decide) (fun c_36 => ?_) (fun c_36 => ?_)
        · refine j_iconst (v := nI 0) F d_M_counts_43 (by decide) ?_
          exact ret _ _ _ _ _ _ () d_M_counts_44 rfl (by decide) (by decide) rfl (bI_f (by unfold hdB; rw [bI_1 c_36, Bool.not_true, Bool.and_false, Bool.and_false, Bool.and_false]))
        · refine j_iconst (v := nI 1) F d_M_counts_39 (by decide) ?_
          refine j_goto (tgt := 44) F d_M_counts_40 (by decide) ?_
          exact ret _ _ _ _ _ _ () d_M_counts_44 rfl (by decide) (by decide) rfl (bI_t (by unfold hdB; rw [decide_eq_false c_7, decide_eq_true (jn_nlt c_17), decide_eq_true (jn_nlt c_27), bI_0 c_36]; rfl))

def rm_M_order : Room := { frames := 0, cells := 0, slots := 0, locals := 0 }
set_option maxHeartbeats 4000000 in
set_option maxRecDepth 100000 in
theorem ct_M_order (l : Launch) (D : va_G) (cA : ClassId) (m0 m1 m2 m3 m4 m5 m6 m7 m8 m9 m10 : Nat) (th now : Int32) (n : Nat) (rf : Int32) (X : AF) (sl tt sm hs lt : Nat → Int32) (hA0 : aok X n) (e0 : Nat) (he0 : e0 < n) : Ci (S := Unit) l y_M_order (Cond.code y_M_order c_M_order 2 (some .int) :: WD) rm_M_order D vwCl [(cA, .int)] nws [.ref m0, .int (nI e0)] [(m0, .inr (6, [.int th, .int now, .int (nI n), .int rf, .ref m1, .ref m2, .ref m3, .ref m4, .ref m5, .ref m6, .ref m7, .ref m8, .ref m9, .ref m10])), (m1, .inl (cA, 80, .inl (X 0))), (m2, .inl (cA, 80, .inl (X 1))), (m3, .inl (cA, 80, .inl (X 2))), (m4, .inl (cA, 80, .inl (X 3))), (m5, .inl (cA, 80, .inl (X 4))), (m6, .inl (cA, 20, .inl sl)), (m7, .inl (cA, 10, .inl tt)), (m8, .inl (cA, 10, .inl sm)), (m9, .inl (cA, 10, .inl hs)), (m10, .inl (cA, 64, .inl lt))] 0 0 (fun r _ => r = nI (ky X e0)) (fun _ => [(m0, .inr (6, [.int th, .int now, .int (nI n), .int rf, .ref m1, .ref m2, .ref m3, .ref m4, .ref m5, .ref m6, .ref m7, .ref m8, .ref m9, .ref m10])), (m1, .inl (cA, 80, .inl (X 0))), (m2, .inl (cA, 80, .inl (X 1))), (m3, .inl (cA, 80, .inl (X 2))), (m4, .inl (cA, 80, .inl (X 3))), (m5, .inl (cA, 80, .inl (X 4))), (m6, .inl (cA, 20, .inl sl)), (m7, .inl (cA, 10, .inl tt)), (m8, .inl (cA, 10, .inl sm)), (m9, .inl (cA, 10, .inl hs)), (m10, .inl (cA, 64, .inl lt))]) := by
  refine Ci.of (cc := c_M_order) (nL := 2) (lv := [(0, .ref m0), (1, .int (nI e0))]) (by decide) rfl (Nat.le_of_ble_eq_true rfl) rfl ?_
  intro p e s m args below meth cd A Q F hK hN hA ret
  have h80 := hA0.1
  refine j_aloadn F d_M_order_0 0 rfl rfl ?_
  refine j_get (ci := 6) (v := .ref m4) F in_M hK 0 rfl rfl 7 (by decide) (wm k_473) rfl d_M_order_1 ?_
  refine j_iloadn F d_M_order_4 1 rfl rfl ?_
  refine j_iald (v := nI (vN X e0)) F hK 4 0 rfl rfl (by omega) (by decide) d_M_order_5 (vN_eq (hA0.2 e0 he0)).1 ?_
  refine j_bipush (v := nI 8) F d_M_order_6 (by decide) ?_
  refine j_imul (v := nI ((vN X e0) * 8)) F d_M_order_8 (pk_mul _ _) ?_
  refine j_aloadn F d_M_order_9 0 rfl rfl ?_
  refine j_get (ci := 6) (v := .ref m1) F in_M hK 0 rfl rfl 4 (by decide) (wm k_470) rfl d_M_order_10 ?_
  refine j_iloadn F d_M_order_13 1 rfl rfl ?_
  refine j_iald (v := nI (kN X e0)) F hK 1 0 rfl rfl (by omega) (by decide) d_M_order_14 (kN_eq (hA0.2 e0 he0)).1 ?_
  refine j_iadd (v := nI (((vN X e0) * 8) + (kN X e0))) F d_M_order_15 (nI_add _ _) ?_
  refine j_sipush (v := nI 128) F d_M_order_16 (by decide) ?_
  refine j_imul (v := nI ((((vN X e0) * 8) + (kN X e0)) * 128)) F d_M_order_19 (pk_mul _ _) ?_
  refine j_iloadn F d_M_order_20 1 rfl rfl ?_
  refine j_iadd (v := nI (((((vN X e0) * 8) + (kN X e0)) * 128) + e0)) F d_M_order_21 (nI_add _ _) ?_
  exact ret _ _ _ _ _ _ () d_M_order_22 rfl (by decide) (by decide) rfl rfl

def rm_M_next : Room := { frames := 2, cells := 0, slots := 0, locals := 47 }
set_option maxHeartbeats 4000000 in
set_option maxRecDepth 100000 in
theorem ct_M_next (l : Launch) (D : va_G) (cA : ClassId) (m0 m1 m2 m3 m4 m5 m6 m7 m8 m9 m10 : Nat) (th now : Int32) (n : Nat) (rf : Int32) (X : AF) (sl tt sm hs lt : Nat → Int32) (hA0 : aok X n) (bh t k : Int32) : Ci (S := Unit) l y_M_next (Cond.code y_M_next c_M_next 7 (some .int) :: WD) rm_M_next D vwCl [(cA, .int)] nws [.ref m0, .int bh, .int t, .int k] [(m0, .inr (6, [.int th, .int now, .int (nI n), .int rf, .ref m1, .ref m2, .ref m3, .ref m4, .ref m5, .ref m6, .ref m7, .ref m8, .ref m9, .ref m10])), (m1, .inl (cA, 80, .inl (X 0))), (m2, .inl (cA, 80, .inl (X 1))), (m3, .inl (cA, 80, .inl (X 2))), (m4, .inl (cA, 80, .inl (X 3))), (m5, .inl (cA, 80, .inl (X 4))), (m6, .inl (cA, 20, .inl sl)), (m7, .inl (cA, 10, .inl tt)), (m8, .inl (cA, 10, .inl sm)), (m9, .inl (cA, 10, .inl hs)), (m10, .inl (cA, 64, .inl lt))] 0 0 (fun r _ => r = oI (nxT X n t k bh n)) (fun _ => [(m0, .inr (6, [.int th, .int now, .int (nI n), .int rf, .ref m1, .ref m2, .ref m3, .ref m4, .ref m5, .ref m6, .ref m7, .ref m8, .ref m9, .ref m10])), (m1, .inl (cA, 80, .inl (X 0))), (m2, .inl (cA, 80, .inl (X 1))), (m3, .inl (cA, 80, .inl (X 2))), (m4, .inl (cA, 80, .inl (X 3))), (m5, .inl (cA, 80, .inl (X 4))), (m6, .inl (cA, 20, .inl sl)), (m7, .inl (cA, 10, .inl tt)), (m8, .inl (cA, 10, .inl sm)), (m9, .inl (cA, 10, .inl hs)), (m10, .inl (cA, 64, .inl lt))]) := by
  refine Ci.of (cc := c_M_next) (nL := 7) (lv := [(0, .ref m0), (1, .int bh), (2, .int t), (3, .int k)]) (by decide) rfl (Nat.le_of_ble_eq_true rfl) rfl ?_
  intro p e s m args below meth cd A Q F hK hN hA ret
  have h80 := hA0.1
  refine j_iconst (v := (-1)) F d_M_next_0 (by decide) ?_
  refine j_istore (lv' := [(4, .int (-1)), (0, .ref m0), (1, .int bh), (2, .int t), (3, .int k)]) F d_M_next_1 (by decide) rfl ?_
  refine j_iconst (v := nI 0) F d_M_next_3 (by decide) ?_
  refine j_istore (lv' := [(5, .int (nI 0)), (4, .int (-1)), (0, .ref m0), (1, .int bh), (2, .int t), (3, .int k)]) F d_M_next_4 (by decide) rfl ?_
  have loop6 : ∀ (fuel : Nat) (i : Nat) (hfuel6 : n - i < fuel) (hi : i ≤ n), J p l e rm_M_next s m args below meth cd D vwCl A s.heap 7 0 0 Q [(m0, .inr (6, [.int th, .int now, .int (nI n), .int rf, .ref m1, .ref m2, .ref m3, .ref m4, .ref m5, .ref m6, .ref m7, .ref m8, .ref m9, .ref m10])), (m1, .inl (cA, 80, .inl (X 0))), (m2, .inl (cA, 80, .inl (X 1))), (m3, .inl (cA, 80, .inl (X 2))), (m4, .inl (cA, 80, .inl (X 3))), (m5, .inl (cA, 80, .inl (X 4))), (m6, .inl (cA, 20, .inl sl)), (m7, .inl (cA, 10, .inl tt)), (m8, .inl (cA, 10, .inl sm)), (m9, .inl (cA, 10, .inl hs)), (m10, .inl (cA, 64, .inl lt))] [(0, .ref m0), (1, .int bh), (2, .int t), (3, .int k), (4, .int (oI (nxT X n t k bh i))), (5, .int (nI i))] 6 [] := by
    intro fuel
    induction fuel with
    | zero => intro i hfuel; exact absurd hfuel (Nat.not_lt_zero _)
    | succ fuel ih6 =>
      intro i hfuel6 hi
      refine j_iload F d_M_next_6 5 rfl ?_
      refine j_aloadn F d_M_next_8 0 rfl rfl ?_
      refine j_get (ci := 6) (v := .int (nI n)) F in_M hK 0 rfl rfl 2 (by decide) (wm k_468) rfl d_M_next_9 ?_
      refine j_ic_ge (tgt := 85) F d_M_next_12 (by decide) (fun c_12 => ?_) (fun c_12 => ?_)
      · have c_12 : n ≤ i := (nI_leI (by omega) (by omega)).mp c_12
        have hin : i = n := by omega
        subst hin
        refine j_iload F d_M_next_85 4 rfl ?_
        exact ret _ _ _ _ _ _ () d_M_next_87 rfl (by decide) (by decide) rfl rfl
      · have c_12 : ¬ n ≤ i := fun h => c_12 ((nI_leI (by omega) (by omega)).mpr h)
        rcases ho : nxT X n t k bh i with _ | f
        · show J p l e rm_M_next s m args below meth cd D vwCl A s.heap 7 0 0 Q [(m0, .inr (6, [.int th, .int now, .int (nI n), .int rf, .ref m1, .ref m2, .ref m3, .ref m4, .ref m5, .ref m6, .ref m7, .ref m8, .ref m9, .ref m10])), (m1, .inl (cA, 80, .inl (X 0))), (m2, .inl (cA, 80, .inl (X 1))), (m3, .inl (cA, 80, .inl (X 2))), (m4, .inl (cA, 80, .inl (X 3))), (m5, .inl (cA, 80, .inl (X 4))), (m6, .inl (cA, 20, .inl sl)), (m7, .inl (cA, 10, .inl tt)), (m8, .inl (cA, 10, .inl sm)), (m9, .inl (cA, 10, .inl hs)), (m10, .inl (cA, 64, .inl lt))] [(0, .ref m0), (1, .int bh), (2, .int t), (3, .int k), (4, .int (-1)), (5, .int (nI i))] 15 []
          refine j_iload F d_M_next_15 4 rfl ?_
          refine j_if_ge (tgt := 25) F d_M_next_17 (by decide) (fun c_17 => ?_) (fun c_17 => ?_)
          · exact absurd c_17 (by decide)
          · refine j_iload F d_M_next_20 5 rfl ?_
            refine j_goto (tgt := 27) F d_M_next_22 (by decide) ?_
            refine j_istore (lv' := [(6, .int (nI i)), (0, .ref m0), (1, .int bh), (2, .int t), (3, .int k), (4, .int (-1)), (5, .int (nI i))]) F d_M_next_27 (by decide) rfl ?_
            refine j_aloadn F d_M_next_29 1 rfl rfl ?_
            refine j_iload F d_M_next_30 6 rfl ?_
            refine j_iloadn F d_M_next_32 3 rfl rfl ?_
            refine j_iloadn F d_M_next_33 4 rfl rfl ?_
            refine j_goi (wc := [(m0, .inr (6, [.int th, .int now, .int (nI n), .int rf, .ref m1, .ref m2, .ref m3, .ref m4, .ref m5, .ref m6, .ref m7, .ref m8, .ref m9, .ref m10])), (m1, .inl (cA, 80, .inl (X 0))), (m2, .inl (cA, 80, .inl (X 1))), (m3, .inl (cA, 80, .inl (X 2))), (m4, .inl (cA, 80, .inl (X 3))), (m5, .inl (cA, 80, .inl (X 4))), (m6, .inl (cA, 20, .inl sl)), (m7, .inl (cA, 10, .inl tt)), (m8, .inl (cA, 10, .inl sm)), (m9, .inl (cA, 10, .inl hs)), (m10, .inl (cA, 64, .inl lt))]) (wr := []) hA [0, 1, 2, 3, 4, 5, 6, 7, 8, 9, 10] [] rfl rfl (by decide) (by decide) (fun H locs ls hP hD hl => va_runV (As := [.int (nI i), .int t, .int k]) (rest := []) F (ct_M_counts l D cA m0 m1 m2 m3 m4 m5 m6 m7 m8 m9 m10 th now n rf X sl tt sm hs lt hA0 i (by omega) t k  H.size) ⟨callB_of 3 F.2.2.2.2 (gd k_552) rfl rfl rfl (F.2.2.2.2 _ (wm k_7)) (F.2.2.2.2 _ (wm k_549)) (by decide +kernel) ⟨by decide, by decide⟩, F.2.2.2.2 _ (wm k_551), F.2.2.2.2 _ (wm ks_29)⟩ (pre_V rfl hK hN hP hD [0, 1, 2, 3, 4, 5, 6, 7, 8, 9, 10] rfl (by decide) 0 rfl rfl) rfl rfl hl.1 rfl (lv_room (Nat.le_of_ble_eq_true rfl)) d_M_next_34 ⟨by decide, by decide⟩) (fun r34 u34 hw34 => ?_)
            subst hw34
            refine j_ws (ws' := [(m0, .inr (6, [.int th, .int now, .int (nI n), .int rf, .ref m1, .ref m2, .ref m3, .ref m4, .ref m5, .ref m6, .ref m7, .ref m8, .ref m9, .ref m10])), (m1, .inl (cA, 80, .inl (X 0))), (m2, .inl (cA, 80, .inl (X 1))), (m3, .inl (cA, 80, .inl (X 2))), (m4, .inl (cA, 80, .inl (X 3))), (m5, .inl (cA, 80, .inl (X 4))), (m6, .inl (cA, 20, .inl sl)), (m7, .inl (cA, 10, .inl tt)), (m8, .inl (cA, 10, .inl sm)), (m9, .inl (cA, 10, .inl hs)), (m10, .inl (cA, 64, .inl lt))]) [0, 1, 2, 3, 4, 5, 6, 7, 8, 9, 10] (by decide) rfl ?_
            refine j_if_eq (tgt := 75) F d_M_next_37 (by decide) (fun c_37 => ?_) (fun c_37 => ?_)
            · refine j_iload F d_M_next_75 5 rfl ?_
              refine j_top (y := oI (nxT X n t k bh (i + 1))) (by rw [nxT_n ho, if_neg (fun h => absurd h (by unfold nxC; rw [bI_0 c_37]; exact Bool.false_ne_true))]; rfl) ?_
              refine j_istore (lv' := [(4, .int (oI (nxT X n t k bh (i + 1)))), (6, .int (nI i)), (0, .ref m0), (1, .int bh), (2, .int t), (3, .int k), (5, .int (nI i))]) F d_M_next_77 (by decide) rfl ?_
              refine j_iinc (v := nI (i + 1)) (lv' := [(5, .int (nI (i + 1))), (4, .int (oI (nxT X n t k bh (i + 1)))), (6, .int (nI i)), (0, .ref m0), (1, .int bh), (2, .int t), (3, .int k)]) F d_M_next_79 6 rfl (jn_inc i) (by decide) rfl ?_
              refine j_goto (tgt := 6) F d_M_next_82 (by decide) ?_
              refine j_lv (lv' := [(0, .ref m0), (1, .int bh), (2, .int t), (3, .int k), (4, .int (oI (nxT X n t k bh (i + 1)))), (5, .int (nI (i + 1)))]) [3, 4, 5, 6, 1, 0] rfl ?_
              exact ih6 (i + 1) (by omega) (by omega)
            · have hk1 := ky_lt hA0 (e := i) (by omega)
              refine j_aloadn F d_M_next_40 1 rfl rfl ?_
              refine j_iload F d_M_next_41 6 rfl ?_
              refine j_goi (wc := [(m0, .inr (6, [.int th, .int now, .int (nI n), .int rf, .ref m1, .ref m2, .ref m3, .ref m4, .ref m5, .ref m6, .ref m7, .ref m8, .ref m9, .ref m10])), (m1, .inl (cA, 80, .inl (X 0))), (m2, .inl (cA, 80, .inl (X 1))), (m3, .inl (cA, 80, .inl (X 2))), (m4, .inl (cA, 80, .inl (X 3))), (m5, .inl (cA, 80, .inl (X 4))), (m6, .inl (cA, 20, .inl sl)), (m7, .inl (cA, 10, .inl tt)), (m8, .inl (cA, 10, .inl sm)), (m9, .inl (cA, 10, .inl hs)), (m10, .inl (cA, 64, .inl lt))]) (wr := []) hA [0, 1, 2, 3, 4, 5, 6, 7, 8, 9, 10] [] rfl rfl (by decide) (by decide) (fun H locs ls hP hD hl => va_runV (As := [.int (nI i)]) (rest := []) F (ct_M_order l D cA m0 m1 m2 m3 m4 m5 m6 m7 m8 m9 m10 th now n rf X sl tt sm hs lt hA0 i (by omega)  H.size) ⟨callB_of 1 F.2.2.2.2 (gd k_560) rfl rfl rfl (F.2.2.2.2 _ (wm k_7)) (F.2.2.2.2 _ (wm k_557)) (by decide +kernel) ⟨by decide, by decide⟩, F.2.2.2.2 _ (wm k_559), F.2.2.2.2 _ (wm ks_31)⟩ (pre_V rfl hK hN hP hD [0, 1, 2, 3, 4, 5, 6, 7, 8, 9, 10] rfl (by decide) 0 rfl rfl) rfl rfl hl.1 rfl (lv_room (Nat.le_of_ble_eq_true rfl)) d_M_next_43 ⟨by decide, by decide⟩) (fun r43 u43 hw43 => ?_)
              subst hw43
              refine j_ws (ws' := [(m0, .inr (6, [.int th, .int now, .int (nI n), .int rf, .ref m1, .ref m2, .ref m3, .ref m4, .ref m5, .ref m6, .ref m7, .ref m8, .ref m9, .ref m10])), (m1, .inl (cA, 80, .inl (X 0))), (m2, .inl (cA, 80, .inl (X 1))), (m3, .inl (cA, 80, .inl (X 2))), (m4, .inl (cA, 80, .inl (X 3))), (m5, .inl (cA, 80, .inl (X 4))), (m6, .inl (cA, 20, .inl sl)), (m7, .inl (cA, 10, .inl tt)), (m8, .inl (cA, 10, .inl sm)), (m9, .inl (cA, 10, .inl hs)), (m10, .inl (cA, 64, .inl lt))]) [0, 1, 2, 3, 4, 5, 6, 7, 8, 9, 10] (by decide) rfl ?_
              refine j_iloadn F d_M_next_46 2 rfl rfl ?_
              refine j_ic_le (tgt := 75) F d_M_next_47 (by decide) (fun c_47 => ?_) (fun c_47 => ?_)
              · refine j_iload F d_M_next_75 5 rfl ?_
                refine j_top (y := oI (nxT X n t k bh (i + 1))) (by rw [nxT_n ho, if_neg (fun h => absurd h (by unfold nxC; rw [decide_eq_false (fun g => jn_no g c_47), Bool.and_false]; exact Bool.false_ne_true))]; rfl) ?_
                refine j_istore (lv' := [(4, .int (oI (nxT X n t k bh (i + 1)))), (6, .int (nI i)), (0, .ref m0), (1, .int bh), (2, .int t), (3, .int k), (5, .int (nI i))]) F d_M_next_77 (by decide) rfl ?_
                refine j_iinc (v := nI (i + 1)) (lv' := [(5, .int (nI (i + 1))), (4, .int (oI (nxT X n t k bh (i + 1)))), (6, .int (nI i)), (0, .ref m0), (1, .int bh), (2, .int t), (3, .int k)]) F d_M_next_79 6 rfl (jn_inc i) (by decide) rfl ?_
                refine j_goto (tgt := 6) F d_M_next_82 (by decide) ?_
                refine j_lv (lv' := [(0, .ref m0), (1, .int bh), (2, .int t), (3, .int k), (4, .int (oI (nxT X n t k bh (i + 1)))), (5, .int (nI (i + 1)))]) [3, 4, 5, 6, 1, 0] rfl ?_
                exact ih6 (i + 1) (by omega) (by omega)
              · refine j_iload F d_M_next_50 5 rfl ?_
                refine j_if_lt (tgt := 70) F d_M_next_52 (by decide) (fun c_52 => ?_) (fun c_52 => ?_)
                · refine j_iload F d_M_next_70 6 rfl ?_
                  refine j_goto (tgt := 77) F d_M_next_72 (by decide) ?_
                  refine j_top (y := oI (nxT X n t k bh (i + 1))) (by rw [nxT_n ho, if_pos (by unfold nxC; rw [bI_1 c_37, decide_eq_true (jn_nle c_47)]; rfl)]; rfl) ?_
                  refine j_istore (lv' := [(4, .int (oI (nxT X n t k bh (i + 1)))), (6, .int (nI i)), (0, .ref m0), (1, .int bh), (2, .int t), (3, .int k), (5, .int (nI i))]) F d_M_next_77 (by decide) rfl ?_
                  refine j_iinc (v := nI (i + 1)) (lv' := [(5, .int (nI (i + 1))), (4, .int (oI (nxT X n t k bh (i + 1)))), (6, .int (nI i)), (0, .ref m0), (1, .int bh), (2, .int t), (3, .int k)]) F d_M_next_79 6 rfl (jn_inc i) (by decide) rfl ?_
                  refine j_goto (tgt := 6) F d_M_next_82 (by decide) ?_
                  refine j_lv (lv' := [(0, .ref m0), (1, .int bh), (2, .int t), (3, .int k), (4, .int (oI (nxT X n t k bh (i + 1)))), (5, .int (nI (i + 1)))]) [3, 4, 5, 6, 1, 0] rfl ?_
                  exact ih6 (i + 1) (by omega) (by omega)
                · exact absurd (show (-1 : Int32) < nI 0 by decide) c_52
        · have hfi : f < i := by
            rcases nxT_spec X n t k bh i with h | ⟨g, hg, hgi, -⟩
            · rw [h.1] at ho; exact absurd ho (by simp)
            · rw [ho] at hg; rw [Option.some.inj hg]; exact hgi
          show J p l e rm_M_next s m args below meth cd D vwCl A s.heap 7 0 0 Q [(m0, .inr (6, [.int th, .int now, .int (nI n), .int rf, .ref m1, .ref m2, .ref m3, .ref m4, .ref m5, .ref m6, .ref m7, .ref m8, .ref m9, .ref m10])), (m1, .inl (cA, 80, .inl (X 0))), (m2, .inl (cA, 80, .inl (X 1))), (m3, .inl (cA, 80, .inl (X 2))), (m4, .inl (cA, 80, .inl (X 3))), (m5, .inl (cA, 80, .inl (X 4))), (m6, .inl (cA, 20, .inl sl)), (m7, .inl (cA, 10, .inl tt)), (m8, .inl (cA, 10, .inl sm)), (m9, .inl (cA, 10, .inl hs)), (m10, .inl (cA, 64, .inl lt))] [(0, .ref m0), (1, .int bh), (2, .int t), (3, .int k), (4, .int (nI f)), (5, .int (nI i))] 15 []
          refine j_iload F d_M_next_15 4 rfl ?_
          refine j_if_ge (tgt := 25) F d_M_next_17 (by decide) (fun c_17 => ?_) (fun c_17 => ?_)
          · have c_17 : 0 ≤ f := (nI_leI (by omega) (by omega)).mp c_17
            refine j_iload F d_M_next_25 4 rfl ?_
            refine j_istore (lv' := [(6, .int (nI f)), (0, .ref m0), (1, .int bh), (2, .int t), (3, .int k), (4, .int (nI f)), (5, .int (nI i))]) F d_M_next_27 (by decide) rfl ?_
            refine j_aloadn F d_M_next_29 1 rfl rfl ?_
            refine j_iload F d_M_next_30 6 rfl ?_
            refine j_iloadn F d_M_next_32 3 rfl rfl ?_
            refine j_iloadn F d_M_next_33 4 rfl rfl ?_
            refine j_goi (wc := [(m0, .inr (6, [.int th, .int now, .int (nI n), .int rf, .ref m1, .ref m2, .ref m3, .ref m4, .ref m5, .ref m6, .ref m7, .ref m8, .ref m9, .ref m10])), (m1, .inl (cA, 80, .inl (X 0))), (m2, .inl (cA, 80, .inl (X 1))), (m3, .inl (cA, 80, .inl (X 2))), (m4, .inl (cA, 80, .inl (X 3))), (m5, .inl (cA, 80, .inl (X 4))), (m6, .inl (cA, 20, .inl sl)), (m7, .inl (cA, 10, .inl tt)), (m8, .inl (cA, 10, .inl sm)), (m9, .inl (cA, 10, .inl hs)), (m10, .inl (cA, 64, .inl lt))]) (wr := []) hA [0, 1, 2, 3, 4, 5, 6, 7, 8, 9, 10] [] rfl rfl (by decide) (by decide) (fun H locs ls hP hD hl => va_runV (As := [.int (nI i), .int t, .int k]) (rest := []) F (ct_M_counts l D cA m0 m1 m2 m3 m4 m5 m6 m7 m8 m9 m10 th now n rf X sl tt sm hs lt hA0 i (by omega) t k  H.size) ⟨callB_of 3 F.2.2.2.2 (gd k_552) rfl rfl rfl (F.2.2.2.2 _ (wm k_7)) (F.2.2.2.2 _ (wm k_549)) (by decide +kernel) ⟨by decide, by decide⟩, F.2.2.2.2 _ (wm k_551), F.2.2.2.2 _ (wm ks_29)⟩ (pre_V rfl hK hN hP hD [0, 1, 2, 3, 4, 5, 6, 7, 8, 9, 10] rfl (by decide) 0 rfl rfl) rfl rfl hl.1 rfl (lv_room (Nat.le_of_ble_eq_true rfl)) d_M_next_34 ⟨by decide, by decide⟩) (fun r34 u34 hw34 => ?_)
            subst hw34
            refine j_ws (ws' := [(m0, .inr (6, [.int th, .int now, .int (nI n), .int rf, .ref m1, .ref m2, .ref m3, .ref m4, .ref m5, .ref m6, .ref m7, .ref m8, .ref m9, .ref m10])), (m1, .inl (cA, 80, .inl (X 0))), (m2, .inl (cA, 80, .inl (X 1))), (m3, .inl (cA, 80, .inl (X 2))), (m4, .inl (cA, 80, .inl (X 3))), (m5, .inl (cA, 80, .inl (X 4))), (m6, .inl (cA, 20, .inl sl)), (m7, .inl (cA, 10, .inl tt)), (m8, .inl (cA, 10, .inl sm)), (m9, .inl (cA, 10, .inl hs)), (m10, .inl (cA, 64, .inl lt))]) [0, 1, 2, 3, 4, 5, 6, 7, 8, 9, 10] (by decide) rfl ?_
            refine j_if_eq (tgt := 75) F d_M_next_37 (by decide) (fun c_37 => ?_) (fun c_37 => ?_)
            · refine j_iload F d_M_next_75 5 rfl ?_
              refine j_top (y := oI (nxT X n t k bh (i + 1))) (by rw [nxT_s ho, if_neg (fun h => (fun h => absurd h (by unfold nxC; rw [bI_0 c_37]; exact Bool.false_ne_true)) h.1)]; rfl) ?_
              refine j_istore (lv' := [(4, .int (oI (nxT X n t k bh (i + 1)))), (6, .int (nI f)), (0, .ref m0), (1, .int bh), (2, .int t), (3, .int k), (5, .int (nI i))]) F d_M_next_77 (by decide) rfl ?_
              refine j_iinc (v := nI (i + 1)) (lv' := [(5, .int (nI (i + 1))), (4, .int (oI (nxT X n t k bh (i + 1)))), (6, .int (nI f)), (0, .ref m0), (1, .int bh), (2, .int t), (3, .int k)]) F d_M_next_79 6 rfl (jn_inc i) (by decide) rfl ?_
              refine j_goto (tgt := 6) F d_M_next_82 (by decide) ?_
              refine j_lv (lv' := [(0, .ref m0), (1, .int bh), (2, .int t), (3, .int k), (4, .int (oI (nxT X n t k bh (i + 1)))), (5, .int (nI (i + 1)))]) [3, 4, 5, 6, 1, 0] rfl ?_
              exact ih6 (i + 1) (by omega) (by omega)
            · have hk1 := ky_lt hA0 (e := i) (by omega)
              refine j_aloadn F d_M_next_40 1 rfl rfl ?_
              refine j_iload F d_M_next_41 6 rfl ?_
              refine j_goi (wc := [(m0, .inr (6, [.int th, .int now, .int (nI n), .int rf, .ref m1, .ref m2, .ref m3, .ref m4, .ref m5, .ref m6, .ref m7, .ref m8, .ref m9, .ref m10])), (m1, .inl (cA, 80, .inl (X 0))), (m2, .inl (cA, 80, .inl (X 1))), (m3, .inl (cA, 80, .inl (X 2))), (m4, .inl (cA, 80, .inl (X 3))), (m5, .inl (cA, 80, .inl (X 4))), (m6, .inl (cA, 20, .inl sl)), (m7, .inl (cA, 10, .inl tt)), (m8, .inl (cA, 10, .inl sm)), (m9, .inl (cA, 10, .inl hs)), (m10, .inl (cA, 64, .inl lt))]) (wr := []) hA [0, 1, 2, 3, 4, 5, 6, 7, 8, 9, 10] [] rfl rfl (by decide) (by decide) (fun H locs ls hP hD hl => va_runV (As := [.int (nI i)]) (rest := []) F (ct_M_order l D cA m0 m1 m2 m3 m4 m5 m6 m7 m8 m9 m10 th now n rf X sl tt sm hs lt hA0 i (by omega)  H.size) ⟨callB_of 1 F.2.2.2.2 (gd k_560) rfl rfl rfl (F.2.2.2.2 _ (wm k_7)) (F.2.2.2.2 _ (wm k_557)) (by decide +kernel) ⟨by decide, by decide⟩, F.2.2.2.2 _ (wm k_559), F.2.2.2.2 _ (wm ks_31)⟩ (pre_V rfl hK hN hP hD [0, 1, 2, 3, 4, 5, 6, 7, 8, 9, 10] rfl (by decide) 0 rfl rfl) rfl rfl hl.1 rfl (lv_room (Nat.le_of_ble_eq_true rfl)) d_M_next_43 ⟨by decide, by decide⟩) (fun r43 u43 hw43 => ?_)
              subst hw43
              refine j_ws (ws' := [(m0, .inr (6, [.int th, .int now, .int (nI n), .int rf, .ref m1, .ref m2, .ref m3, .ref m4, .ref m5, .ref m6, .ref m7, .ref m8, .ref m9, .ref m10])), (m1, .inl (cA, 80, .inl (X 0))), (m2, .inl (cA, 80, .inl (X 1))), (m3, .inl (cA, 80, .inl (X 2))), (m4, .inl (cA, 80, .inl (X 3))), (m5, .inl (cA, 80, .inl (X 4))), (m6, .inl (cA, 20, .inl sl)), (m7, .inl (cA, 10, .inl tt)), (m8, .inl (cA, 10, .inl sm)), (m9, .inl (cA, 10, .inl hs)), (m10, .inl (cA, 64, .inl lt))]) [0, 1, 2, 3, 4, 5, 6, 7, 8, 9, 10] (by decide) rfl ?_
              refine j_iloadn F d_M_next_46 2 rfl rfl ?_
              refine j_ic_le (tgt := 75) F d_M_next_47 (by decide) (fun c_47 => ?_) (fun c_47 => ?_)
              · refine j_iload F d_M_next_75 5 rfl ?_
                refine j_top (y := oI (nxT X n t k bh (i + 1))) (by rw [nxT_s ho, if_neg (fun h => (fun h => absurd h (by unfold nxC; rw [decide_eq_false (fun g => jn_no g c_47), Bool.and_false]; exact Bool.false_ne_true)) h.1)]; rfl) ?_
                refine j_istore (lv' := [(4, .int (oI (nxT X n t k bh (i + 1)))), (6, .int (nI f)), (0, .ref m0), (1, .int bh), (2, .int t), (3, .int k), (5, .int (nI i))]) F d_M_next_77 (by decide) rfl ?_
                refine j_iinc (v := nI (i + 1)) (lv' := [(5, .int (nI (i + 1))), (4, .int (oI (nxT X n t k bh (i + 1)))), (6, .int (nI f)), (0, .ref m0), (1, .int bh), (2, .int t), (3, .int k)]) F d_M_next_79 6 rfl (jn_inc i) (by decide) rfl ?_
                refine j_goto (tgt := 6) F d_M_next_82 (by decide) ?_
                refine j_lv (lv' := [(0, .ref m0), (1, .int bh), (2, .int t), (3, .int k), (4, .int (oI (nxT X n t k bh (i + 1)))), (5, .int (nI (i + 1)))]) [3, 4, 5, 6, 1, 0] rfl ?_
                exact ih6 (i + 1) (by omega) (by omega)
              · refine j_iload F d_M_next_50 5 rfl ?_
                refine j_if_lt (tgt := 70) F d_M_next_52 (by decide) (fun c_52 => ?_) (fun c_52 => ?_)
                · have c_52 : f < 0 := (nI_ltI (by omega) (by omega)).mp c_52
                  exact absurd c_52 (by omega)
                · have c_52 : ¬ f < 0 := fun h => c_52 ((nI_ltI (by omega) (by omega)).mpr h)
                  refine j_aloadn F d_M_next_55 1 rfl rfl ?_
                  refine j_iload F d_M_next_56 6 rfl ?_
                  refine j_goi (wc := [(m0, .inr (6, [.int th, .int now, .int (nI n), .int rf, .ref m1, .ref m2, .ref m3, .ref m4, .ref m5, .ref m6, .ref m7, .ref m8, .ref m9, .ref m10])), (m1, .inl (cA, 80, .inl (X 0))), (m2, .inl (cA, 80, .inl (X 1))), (m3, .inl (cA, 80, .inl (X 2))), (m4, .inl (cA, 80, .inl (X 3))), (m5, .inl (cA, 80, .inl (X 4))), (m6, .inl (cA, 20, .inl sl)), (m7, .inl (cA, 10, .inl tt)), (m8, .inl (cA, 10, .inl sm)), (m9, .inl (cA, 10, .inl hs)), (m10, .inl (cA, 64, .inl lt))]) (wr := []) hA [0, 1, 2, 3, 4, 5, 6, 7, 8, 9, 10] [] rfl rfl (by decide) (by decide) (fun H locs ls hP hD hl => va_runV (As := [.int (nI i)]) (rest := []) F (ct_M_order l D cA m0 m1 m2 m3 m4 m5 m6 m7 m8 m9 m10 th now n rf X sl tt sm hs lt hA0 i (by omega)  H.size) ⟨callB_of 1 F.2.2.2.2 (gd k_560) rfl rfl rfl (F.2.2.2.2 _ (wm k_7)) (F.2.2.2.2 _ (wm k_557)) (by decide +kernel) ⟨by decide, by decide⟩, F.2.2.2.2 _ (wm k_559), F.2.2.2.2 _ (wm ks_31)⟩ (pre_V rfl hK hN hP hD [0, 1, 2, 3, 4, 5, 6, 7, 8, 9, 10] rfl (by decide) 0 rfl rfl) rfl rfl hl.1 rfl (lv_room (Nat.le_of_ble_eq_true rfl)) d_M_next_58 ⟨by decide, by decide⟩) (fun r58 u58 hw58 => ?_)
                  subst hw58
                  refine j_ws (ws' := [(m0, .inr (6, [.int th, .int now, .int (nI n), .int rf, .ref m1, .ref m2, .ref m3, .ref m4, .ref m5, .ref m6, .ref m7, .ref m8, .ref m9, .ref m10])), (m1, .inl (cA, 80, .inl (X 0))), (m2, .inl (cA, 80, .inl (X 1))), (m3, .inl (cA, 80, .inl (X 2))), (m4, .inl (cA, 80, .inl (X 3))), (m5, .inl (cA, 80, .inl (X 4))), (m6, .inl (cA, 20, .inl sl)), (m7, .inl (cA, 10, .inl tt)), (m8, .inl (cA, 10, .inl sm)), (m9, .inl (cA, 10, .inl hs)), (m10, .inl (cA, 64, .inl lt))]) [0, 1, 2, 3, 4, 5, 6, 7, 8, 9, 10] (by decide) rfl ?_
                  have hk2 := ky_lt hA0 (e := f) (by omega)
                  refine j_aloadn F d_M_next_61 1 rfl rfl ?_
                  refine j_iload F d_M_next_62 0 rfl ?_
                  refine j_goi (wc := [(m0, .inr (6, [.int th, .int now, .int (nI n), .int rf, .ref m1, .ref m2, .ref m3, .ref m4, .ref m5, .ref m6, .ref m7, .ref m8, .ref m9, .ref m10])), (m1, .inl (cA, 80, .inl (X 0))), (m2, .inl (cA, 80, .inl (X 1))), (m3, .inl (cA, 80, .inl (X 2))), (m4, .inl (cA, 80, .inl (X 3))), (m5, .inl (cA, 80, .inl (X 4))), (m6, .inl (cA, 20, .inl sl)), (m7, .inl (cA, 10, .inl tt)), (m8, .inl (cA, 10, .inl sm)), (m9, .inl (cA, 10, .inl hs)), (m10, .inl (cA, 64, .inl lt))]) (wr := []) hA [0, 1, 2, 3, 4, 5, 6, 7, 8, 9, 10] [] rfl rfl (by decide) (by decide) (fun H locs ls hP hD hl => va_runV (As := [.int (nI f)]) (rest := [.int (nI (ky X i))]) F (ct_M_order l D cA m0 m1 m2 m3 m4 m5 m6 m7 m8 m9 m10 th now n rf X sl tt sm hs lt hA0 f (by omega)  H.size) ⟨callB_of 1 F.2.2.2.2 (gd k_560) rfl rfl rfl (F.2.2.2.2 _ (wm k_7)) (F.2.2.2.2 _ (wm k_557)) (by decide +kernel) ⟨by decide, by decide⟩, F.2.2.2.2 _ (wm k_559), F.2.2.2.2 _ (wm ks_31)⟩ (pre_V rfl hK hN hP hD [0, 1, 2, 3, 4, 5, 6, 7, 8, 9, 10] rfl (by decide) 0 rfl rfl) rfl rfl hl.1 rfl (lv_room (Nat.le_of_ble_eq_true rfl)) d_M_next_64 ⟨by decide, by decide⟩) (fun r64 u64 hw64 => ?_)
                  subst hw64
                  refine j_ws (ws' := [(m0, .inr (6, [.int th, .int now, .int (nI n), .int rf, .ref m1, .ref m2, .ref m3, .ref m4, .ref m5, .ref m6, .ref m7, .ref m8, .ref m9, .ref m10])), (m1, .inl (cA, 80, .inl (X 0))), (m2, .inl (cA, 80, .inl (X 1))), (m3, .inl (cA, 80, .inl (X 2))), (m4, .inl (cA, 80, .inl (X 3))), (m5, .inl (cA, 80, .inl (X 4))), (m6, .inl (cA, 20, .inl sl)), (m7, .inl (cA, 10, .inl tt)), (m8, .inl (cA, 10, .inl sm)), (m9, .inl (cA, 10, .inl hs)), (m10, .inl (cA, 64, .inl lt))]) [0, 1, 2, 3, 4, 5, 6, 7, 8, 9, 10] (by decide) rfl ?_
                  refine j_ic_ge (tgt := 75) F d_M_next_67 (by decide) (fun c_67 => ?_) (fun c_67 => ?_)
                  · have c_67 : (ky X f) ≤ (ky X i) := (nI_leI (by omega) (by omega)).mp c_67
                    refine j_iload F d_M_next_75 5 rfl ?_
                    refine j_top (y := oI (nxT X n t k bh (i + 1))) (by rw [nxT_s ho, if_neg (fun h => absurd h.2 (by omega))]; rfl) ?_
                    refine j_istore (lv' := [(4, .int (oI (nxT X n t k bh (i + 1)))), (6, .int (nI f)), (0, .ref m0), (1, .int bh), (2, .int t), (3, .int k), (5, .int (nI i))]) F d_M_next_77 (by decide) rfl ?_
                    refine j_iinc (v := nI (i + 1)) (lv' := [(5, .int (nI (i + 1))), (4, .int (oI (nxT X n t k bh (i + 1)))), (6, .int (nI f)), (0, .ref m0), (1, .int bh), (2, .int t), (3, .int k)]) F d_M_next_79 6 rfl (jn_inc i) (by decide) rfl ?_
                    refine j_goto (tgt := 6) F d_M_next_82 (by decide) ?_
                    refine j_lv (lv' := [(0, .ref m0), (1, .int bh), (2, .int t), (3, .int k), (4, .int (oI (nxT X n t k bh (i + 1)))), (5, .int (nI (i + 1)))]) [3, 4, 5, 6, 1, 0] rfl ?_
                    exact ih6 (i + 1) (by omega) (by omega)
                  · have c_67 : ¬ (ky X f) ≤ (ky X i) := fun h => c_67 ((nI_leI (by omega) (by omega)).mpr h)
                    refine j_iload F d_M_next_70 6 rfl ?_
                    refine j_goto (tgt := 77) F d_M_next_72 (by decide) ?_
                    refine j_top (y := oI (nxT X n t k bh (i + 1))) (by rw [nxT_s ho, if_pos ⟨by unfold nxC; rw [bI_1 c_37, decide_eq_true (jn_nle c_47)]; rfl, by omega⟩]; rfl) ?_
                    refine j_istore (lv' := [(4, .int (oI (nxT X n t k bh (i + 1)))), (6, .int (nI f)), (0, .ref m0), (1, .int bh), (2, .int t), (3, .int k), (5, .int (nI i))]) F d_M_next_77 (by decide) rfl ?_
                    refine j_iinc (v := nI (i + 1)) (lv' := [(5, .int (nI (i + 1))), (4, .int (oI (nxT X n t k bh (i + 1)))), (6, .int (nI f)), (0, .ref m0), (1, .int bh), (2, .int t), (3, .int k)]) F d_M_next_79 6 rfl (jn_inc i) (by decide) rfl ?_
                    refine j_goto (tgt := 6) F d_M_next_82 (by decide) ?_
                    refine j_lv (lv' := [(0, .ref m0), (1, .int bh), (2, .int t), (3, .int k), (4, .int (oI (nxT X n t k bh (i + 1)))), (5, .int (nI (i + 1)))]) [3, 4, 5, 6, 1, 0] rfl ?_
                    exact ih6 (i + 1) (by omega) (by omega)
          · have c_17 : ¬ 0 ≤ f := fun h => c_17 ((nI_leI (by omega) (by omega)).mpr h)
            exact absurd c_17 (by omega)
  refine j_lv (lv' := [(0, .ref m0), (1, .int bh), (2, .int t), (3, .int k), (4, .int (-1)), (5, .int (nI 0))]) [2, 3, 4, 5, 1, 0] rfl ?_
  exact loop6 (n + 1) 0 (by omega) (by omega)

def rm_M_boxAt : Room := { frames := 0, cells := 0, slots := 0, locals := 0 }
set_option maxHeartbeats 4000000 in
set_option maxRecDepth 100000 in
theorem ct_M_boxAt (l : Launch) (D : va_G) (cA : ClassId) (m0 m1 m2 m3 m4 m5 m6 m7 m8 m9 m10 : Nat) (th now : Int32) (n : Nat) (rf : Int32) (X : AF) (sl tt sm hs lt : Nat → Int32) (hA0 : aok X n) (x : Int32) : Ci (S := Unit) l y_M_boxAt (Cond.code y_M_boxAt c_M_boxAt 4 (some .int) :: WD) rm_M_boxAt D vwCl [(cA, .int)] nws [.ref m0, .int x] [(m0, .inr (6, [.int th, .int now, .int (nI n), .int rf, .ref m1, .ref m2, .ref m3, .ref m4, .ref m5, .ref m6, .ref m7, .ref m8, .ref m9, .ref m10])), (m1, .inl (cA, 80, .inl (X 0))), (m2, .inl (cA, 80, .inl (X 1))), (m3, .inl (cA, 80, .inl (X 2))), (m4, .inl (cA, 80, .inl (X 3))), (m5, .inl (cA, 80, .inl (X 4))), (m6, .inl (cA, 20, .inl sl)), (m7, .inl (cA, 10, .inl tt)), (m8, .inl (cA, 10, .inl sm)), (m9, .inl (cA, 10, .inl hs)), (m10, .inl (cA, 64, .inl lt))] 0 0 (fun r _ => bxP sl x r) (fun _ => [(m0, .inr (6, [.int th, .int now, .int (nI n), .int rf, .ref m1, .ref m2, .ref m3, .ref m4, .ref m5, .ref m6, .ref m7, .ref m8, .ref m9, .ref m10])), (m1, .inl (cA, 80, .inl (X 0))), (m2, .inl (cA, 80, .inl (X 1))), (m3, .inl (cA, 80, .inl (X 2))), (m4, .inl (cA, 80, .inl (X 3))), (m5, .inl (cA, 80, .inl (X 4))), (m6, .inl (cA, 20, .inl sl)), (m7, .inl (cA, 10, .inl tt)), (m8, .inl (cA, 10, .inl sm)), (m9, .inl (cA, 10, .inl hs)), (m10, .inl (cA, 64, .inl lt))]) := by
  refine Ci.of (cc := c_M_boxAt) (nL := 4) (lv := [(0, .ref m0), (1, .int x)]) (by decide) rfl (Nat.le_of_ble_eq_true rfl) rfl ?_
  intro p e s m args below meth cd A Q F hK hN hA ret
  refine j_iconst (v := (-1)) F d_M_boxAt_0 (by decide) ?_
  refine j_istoren (lv' := [(2, .int (-1)), (0, .ref m0), (1, .int x)]) F d_M_boxAt_1 rfl (by decide) rfl ?_
  refine j_iconst (v := nI 0) F d_M_boxAt_2 (by decide) ?_
  refine j_istoren (lv' := [(3, .int (nI 0)), (2, .int (-1)), (0, .ref m0), (1, .int x)]) F d_M_boxAt_3 rfl (by decide) rfl ?_
  have loop4 : ∀ (fuel : Nat) (i : Nat) (z : Int32) (hfuel4 : 20 - i < fuel) (hi : i ≤ 20) (hz : (z = -1 ∧ ∀ j, j < i → ¬ sl j = x) ∨ ∃ b, b < i ∧ z = nI b ∧ sl b = x), J p l e rm_M_boxAt s m args below meth cd D vwCl A s.heap 4 0 0 Q [(m0, .inr (6, [.int th, .int now, .int (nI n), .int rf, .ref m1, .ref m2, .ref m3, .ref m4, .ref m5, .ref m6, .ref m7, .ref m8, .ref m9, .ref m10])), (m1, .inl (cA, 80, .inl (X 0))), (m2, .inl (cA, 80, .inl (X 1))), (m3, .inl (cA, 80, .inl (X 2))), (m4, .inl (cA, 80, .inl (X 3))), (m5, .inl (cA, 80, .inl (X 4))), (m6, .inl (cA, 20, .inl sl)), (m7, .inl (cA, 10, .inl tt)), (m8, .inl (cA, 10, .inl sm)), (m9, .inl (cA, 10, .inl hs)), (m10, .inl (cA, 64, .inl lt))] [(0, .ref m0), (1, .int x), (2, .int z), (3, .int (nI i))] 4 [] := by
    intro fuel
    induction fuel with
    | zero => intro i z hfuel; exact absurd hfuel (Nat.not_lt_zero _)
    | succ fuel ih4 =>
      intro i z hfuel4 hi hz
      refine j_iloadn F d_M_boxAt_4 3 rfl rfl ?_
      refine j_bipush (v := nI 20) F d_M_boxAt_5 (by decide) ?_
      refine j_ic_ge (tgt := 32) F d_M_boxAt_7 (by decide) (fun c_7 => ?_) (fun c_7 => ?_)
      · have c_7 : 20 ≤ i := (nI_leI (by omega) (by omega)).mp c_7
        have hin : i = 20 := by omega
        subst hin
        refine j_iloadn F d_M_boxAt_32 2 rfl rfl ?_
        exact ret _ _ _ _ _ _ () d_M_boxAt_33 rfl (by decide) (by decide) rfl hz
      · have c_7 : ¬ 20 ≤ i := fun h => c_7 ((nI_leI (by omega) (by omega)).mpr h)
        refine j_aloadn F d_M_boxAt_10 0 rfl rfl ?_
        refine j_get (ci := 6) (v := .ref m6) F in_M hK 0 rfl rfl 9 (by decide) (wm k_475) rfl d_M_boxAt_11 ?_
        refine j_iloadn F d_M_boxAt_14 3 rfl rfl ?_
        refine j_iald (v := sl i) F hK 6 0 rfl rfl (by omega) (by decide) d_M_boxAt_15 rfl ?_
        refine j_iloadn F d_M_boxAt_16 1 rfl rfl ?_
        refine j_ic_ne (tgt := 24) F d_M_boxAt_17 (by decide) (fun c_17 => ?_) (fun c_17 => ?_)
        · refine j_iloadn F d_M_boxAt_24 2 rfl rfl ?_
          refine j_istoren (lv' := [(2, .int z), (0, .ref m0), (1, .int x), (3, .int (nI i))]) F d_M_boxAt_25 rfl (by decide) rfl ?_
          refine j_iinc (v := nI (i + 1)) (lv' := [(3, .int (nI (i + 1))), (2, .int z), (0, .ref m0), (1, .int x)]) F d_M_boxAt_26 3 rfl (jn_inc i) (by decide) rfl ?_
          refine j_goto (tgt := 4) F d_M_boxAt_29 (by decide) ?_
          refine j_lv (lv' := [(0, .ref m0), (1, .int x), (2, .int z), (3, .int (nI (i + 1)))]) [2, 3, 1, 0] rfl ?_
          exact ih4 (i + 1) z (by omega) (by omega) (by
            rcases hz with h | ⟨b, hb, e1, e2⟩
            · refine Or.inl ⟨h.1, fun j hj => ?_⟩
              by_cases e3 : j = i
              · rw [e3]; exact c_17
              · exact h.2 j (by omega)
            · exact Or.inr ⟨b, by omega, e1, e2⟩)
        · refine j_iloadn F d_M_boxAt_20 3 rfl rfl ?_
          refine j_goto (tgt := 25) F d_M_boxAt_21 (by decide) ?_
          refine j_istoren (lv' := [(2, .int (nI i)), (0, .ref m0), (1, .int x), (3, .int (nI i))]) F d_M_boxAt_25 rfl (by decide) rfl ?_
          refine j_iinc (v := nI (i + 1)) (lv' := [(3, .int (nI (i + 1))), (2, .int (nI i)), (0, .ref m0), (1, .int x)]) F d_M_boxAt_26 3 rfl (jn_inc i) (by decide) rfl ?_
          refine j_goto (tgt := 4) F d_M_boxAt_29 (by decide) ?_
          refine j_lv (lv' := [(0, .ref m0), (1, .int x), (2, .int (nI i)), (3, .int (nI (i + 1)))]) [2, 3, 1, 0] rfl ?_
          exact ih4 (i + 1) (nI i) (by omega) (by omega) (Or.inr ⟨i, by omega, rfl, c_17⟩)
  refine j_lv (lv' := [(0, .ref m0), (1, .int x), (2, .int (-1)), (3, .int (nI 0))]) [2, 3, 1, 0] rfl ?_
  exact loop4 (20 + 1) 0 (-1) (by omega) (by omega) (Or.inl ⟨rfl, fun j hj => absurd hj (Nat.not_lt_zero _)⟩)

def rm_M_holds : Room := { frames := 1, cells := 0, slots := 0, locals := 23 }
set_option maxHeartbeats 4000000 in
set_option maxRecDepth 100000 in
theorem ct_M_holds (l : Launch) (D : va_G) (cA : ClassId) (m0 m1 m2 m3 m4 m5 m6 m7 m8 m9 m10 : Nat) (th now : Int32) (n : Nat) (rf : Int32) (X : AF) (sl tt sm hs lt : Nat → Int32) (hA0 : aok X n) (e0 : Nat) (he0 : e0 < n) : Cv (S := Unit) l y_M_holds (Cond.code y_M_holds c_M_holds 4 none :: WD) rm_M_holds D vwCl [(cA, .int)] nws [.ref m0, .int (nI e0)] [(m0, .inr (6, [.int th, .int now, .int (nI n), .int rf, .ref m1, .ref m2, .ref m3, .ref m4, .ref m5, .ref m6, .ref m7, .ref m8, .ref m9, .ref m10])), (m1, .inl (cA, 80, .inl (X 0))), (m2, .inl (cA, 80, .inl (X 1))), (m3, .inl (cA, 80, .inl (X 2))), (m4, .inl (cA, 80, .inl (X 3))), (m5, .inl (cA, 80, .inl (X 4))), (m6, .inl (cA, 20, .inl sl)), (m7, .inl (cA, 10, .inl tt)), (m8, .inl (cA, 10, .inl sm)), (m9, .inl (cA, 10, .inl hs)), (m10, .inl (cA, 64, .inl lt))] 0 0 (fun _ => True) (fun _ => [(m0, .inr (6, [.int th, .int now, .int (nI n), .int rf, .ref m1, .ref m2, .ref m3, .ref m4, .ref m5, .ref m6, .ref m7, .ref m8, .ref m9, .ref m10])), (m1, .inl (cA, 80, .inl (X 0))), (m2, .inl (cA, 80, .inl (X 1))), (m3, .inl (cA, 80, .inl (X 2))), (m4, .inl (cA, 80, .inl (X 3))), (m5, .inl (cA, 80, .inl (X 4))), (m6, .inl (cA, 20, .inl (stS X e0 sl))), (m7, .inl (cA, 10, .inl (stT X e0 tt))), (m8, .inl (cA, 10, .inl (stM X e0 sm))), (m9, .inl (cA, 10, .inl hs)), (m10, .inl (cA, 64, .inl lt))]) := by
  refine Cv.of (cc := c_M_holds) (nL := 4) (lv := [(0, .ref m0), (1, .int (nI e0))]) (by decide) rfl (Nat.le_of_ble_eq_true rfl) rfl ?_
  intro p e s m args below meth cd A Q F hK hN hA hinit ret
  have h80 := hA0.1
  have hk := hA0.2 e0 he0
  refine j_aloadn F d_M_holds_0 0 rfl rfl ?_
  refine j_get (ci := 6) (v := .ref m2) F in_M hK 0 rfl rfl 5 (by decide) (wm k_471) rfl d_M_holds_1 ?_
  refine j_iloadn F d_M_holds_4 1 rfl rfl ?_
  refine j_iald (v := (X 1) e0) F hK 2 0 rfl rfl (by omega) (by decide) d_M_holds_5 rfl ?_
  refine j_istoren (lv' := [(2, .int ((X 1) e0)), (0, .ref m0), (1, .int (nI e0))]) F d_M_holds_6 rfl (by decide) rfl ?_
  refine j_aloadn F d_M_holds_7 1 rfl rfl ?_
  refine j_get (ci := 6) (v := .ref m3) F in_M hK 0 rfl rfl 6 (by decide) (wm k_472) rfl d_M_holds_8 ?_
  refine j_iloadn F d_M_holds_11 2 rfl rfl ?_
  refine j_iald (v := (X 2) e0) F hK 3 0 rfl rfl (by omega) (by decide) d_M_holds_12 rfl ?_
  refine j_istoren (lv' := [(3, .int ((X 2) e0)), (2, .int ((X 1) e0)), (0, .ref m0), (1, .int (nI e0))]) F d_M_holds_13 rfl (by decide) rfl ?_
  refine j_aloadn F d_M_holds_14 2 rfl rfl ?_
  refine j_get (ci := 6) (v := .ref m1) F in_M hK 0 rfl rfl 4 (by decide) (wm k_470) rfl d_M_holds_15 ?_
  refine j_iloadn F d_M_holds_18 3 rfl rfl ?_
  refine j_iald (v := (X 0) e0) F hK 1 0 rfl rfl (by omega) (by decide) d_M_holds_19 rfl ?_
  have sw := jn_sw3 ((X 0) e0)
  rcases sw with hz | hz | hz | hz | hz
  · refine j_tabIn (tgt := 52) F d_M_holds_20 0 hz.1 (by decide) (by decide) rfl (by decide) ?_
    obtain ⟨⟨a', ha', ea⟩, -⟩ := aok_0 hk hz.2
    rw [ea]
    refine j_aloadn F d_M_holds_52 2 rfl rfl ?_
    refine j_get (ci := 6) (v := .ref m6) F in_M hK 0 rfl rfl 9 (by decide) (wm k_475) rfl d_M_holds_53 ?_
    refine j_iloadn F d_M_holds_56 1 rfl rfl ?_
    refine j_aloadn F d_M_holds_57 2 rfl rfl ?_
    refine j_iloadn F d_M_holds_58 0 rfl rfl ?_
    refine j_goi (wc := [(m0, .inr (6, [.int th, .int now, .int (nI n), .int rf, .ref m1, .ref m2, .ref m3, .ref m4, .ref m5, .ref m6, .ref m7, .ref m8, .ref m9, .ref m10])), (m1, .inl (cA, 80, .inl (X 0))), (m2, .inl (cA, 80, .inl (X 1))), (m3, .inl (cA, 80, .inl (X 2))), (m4, .inl (cA, 80, .inl (X 3))), (m5, .inl (cA, 80, .inl (X 4))), (m6, .inl (cA, 20, .inl sl)), (m7, .inl (cA, 10, .inl tt)), (m8, .inl (cA, 10, .inl sm)), (m9, .inl (cA, 10, .inl hs)), (m10, .inl (cA, 64, .inl lt))]) (wr := []) hA [0, 1, 2, 3, 4, 5, 6, 7, 8, 9, 10] [] rfl rfl (by decide) (by decide) (fun H locs ls hP hD hl => va_runV (As := [.int ((X 2) e0)]) (rest := [.int (nI a'), .ref m6]) F (ct_M_boxAt l D cA m0 m1 m2 m3 m4 m5 m6 m7 m8 m9 m10 th now n rf X sl tt sm hs lt hA0 ((X 2) e0)  H.size) ⟨callB_of 1 F.2.2.2.2 (gd k_568) rfl rfl rfl (F.2.2.2.2 _ (wm k_7)) (F.2.2.2.2 _ (wm k_565)) (by decide +kernel) ⟨by decide, by decide⟩, F.2.2.2.2 _ (wm k_567), F.2.2.2.2 _ (wm ks_33)⟩ (pre_V rfl hK hN hP hD [0, 1, 2, 3, 4, 5, 6, 7, 8, 9, 10] rfl (by decide) 0 rfl rfl) rfl rfl hl.1 rfl (lv_room (Nat.le_of_ble_eq_true rfl)) d_M_holds_59 ⟨by decide, by decide⟩) (fun r59 u59 hw59 => ?_)
    refine j_ws (ws' := [(m0, .inr (6, [.int th, .int now, .int (nI n), .int rf, .ref m1, .ref m2, .ref m3, .ref m4, .ref m5, .ref m6, .ref m7, .ref m8, .ref m9, .ref m10])), (m1, .inl (cA, 80, .inl (X 0))), (m2, .inl (cA, 80, .inl (X 1))), (m3, .inl (cA, 80, .inl (X 2))), (m4, .inl (cA, 80, .inl (X 3))), (m5, .inl (cA, 80, .inl (X 4))), (m6, .inl (cA, 20, .inl sl)), (m7, .inl (cA, 10, .inl tt)), (m8, .inl (cA, 10, .inl sm)), (m9, .inl (cA, 10, .inl hs)), (m10, .inl (cA, 64, .inl lt))]) [0, 1, 2, 3, 4, 5, 6, 7, 8, 9, 10] (by decide) rfl ?_
    refine j_if_ge (tgt := 69) F d_M_holds_62 (by decide) (fun c_62 => ?_) (fun c_62 => ?_)
    · refine j_aloadn F d_M_holds_69 2 rfl rfl ?_
      refine j_get (ci := 6) (v := .ref m6) F in_M hK 0 rfl rfl 9 (by decide) (wm k_475) rfl d_M_holds_70 ?_
      refine j_iloadn F d_M_holds_73 1 rfl rfl ?_
      refine j_iald (v := sl a') F hK 6 0 rfl rfl (by omega) (by decide) d_M_holds_74 rfl ?_
      refine j_iast (ws' := [(m0, .inr (6, [.int th, .int now, .int (nI n), .int rf, .ref m1, .ref m2, .ref m3, .ref m4, .ref m5, .ref m6, .ref m7, .ref m8, .ref m9, .ref m10])), (m1, .inl (cA, 80, .inl (X 0))), (m2, .inl (cA, 80, .inl (X 1))), (m3, .inl (cA, 80, .inl (X 2))), (m4, .inl (cA, 80, .inl (X 3))), (m5, .inl (cA, 80, .inl (X 4))), (m6, .inl (cA, 20, .inl (upd sl a' (sl a')))), (m7, .inl (cA, 10, .inl tt)), (m8, .inl (cA, 10, .inl sm)), (m9, .inl (cA, 10, .inl hs)), (m10, .inl (cA, 64, .inl lt))]) F hK 6 0 rfl rfl (by omega) (by decide) d_M_holds_75 rfl ?_
      refine j_goto (tgt := 131) F d_M_holds_76 (by decide) ?_
      exact ret _ _ _ _ _ () d_M_holds_131 (by decide) (by decide) (by dsimp only; rw [stS_0f hz.2 (bxP_nn hw59 c_62), stT_n (kne hz.2 (by decide) (by decide) (by decide)), stM_n (kne hz.2 (by decide) (by decide) (by decide)), upd_self]) trivial
    · refine j_iloadn F d_M_holds_65 0 rfl rfl ?_
      refine j_goto (tgt := 75) F d_M_holds_66 (by decide) ?_
      refine j_iast (ws' := [(m0, .inr (6, [.int th, .int now, .int (nI n), .int rf, .ref m1, .ref m2, .ref m3, .ref m4, .ref m5, .ref m6, .ref m7, .ref m8, .ref m9, .ref m10])), (m1, .inl (cA, 80, .inl (X 0))), (m2, .inl (cA, 80, .inl (X 1))), (m3, .inl (cA, 80, .inl (X 2))), (m4, .inl (cA, 80, .inl (X 3))), (m5, .inl (cA, 80, .inl (X 4))), (m6, .inl (cA, 20, .inl (upd sl a' ((X 2) e0)))), (m7, .inl (cA, 10, .inl tt)), (m8, .inl (cA, 10, .inl sm)), (m9, .inl (cA, 10, .inl hs)), (m10, .inl (cA, 64, .inl lt))]) F hK 6 0 rfl rfl (by omega) (by decide) d_M_holds_75 rfl ?_
      refine j_goto (tgt := 131) F d_M_holds_76 (by decide) ?_
      exact ret _ _ _ _ _ () d_M_holds_131 (by decide) (by decide) (by dsimp only; rw [stS_0t hz.2 ea ha' (bxP_ng hw59 c_62), stT_n (kne hz.2 (by decide) (by decide) (by decide)), stM_n (kne hz.2 (by decide) (by decide) (by decide))]) trivial
  · refine j_tabIn (tgt := 79) F d_M_holds_20 1 hz.1 (by decide) (by decide) rfl (by decide) ?_
    obtain ⟨a', ha', ea⟩ := aok_1 hk hz.2
    rw [ea]
    refine j_aloadn F d_M_holds_79 2 rfl rfl ?_
    refine j_get (ci := 6) (v := .ref m6) F in_M hK 0 rfl rfl 9 (by decide) (wm k_475) rfl d_M_holds_80 ?_
    refine j_iloadn F d_M_holds_83 1 rfl rfl ?_
    refine j_iconst (v := (-1)) F d_M_holds_84 (by decide) ?_
    refine j_iast (ws' := [(m0, .inr (6, [.int th, .int now, .int (nI n), .int rf, .ref m1, .ref m2, .ref m3, .ref m4, .ref m5, .ref m6, .ref m7, .ref m8, .ref m9, .ref m10])), (m1, .inl (cA, 80, .inl (X 0))), (m2, .inl (cA, 80, .inl (X 1))), (m3, .inl (cA, 80, .inl (X 2))), (m4, .inl (cA, 80, .inl (X 3))), (m5, .inl (cA, 80, .inl (X 4))), (m6, .inl (cA, 20, .inl (upd sl a' (-1)))), (m7, .inl (cA, 10, .inl tt)), (m8, .inl (cA, 10, .inl sm)), (m9, .inl (cA, 10, .inl hs)), (m10, .inl (cA, 64, .inl lt))]) F hK 6 0 rfl rfl (by omega) (by decide) d_M_holds_85 rfl ?_
    refine j_goto (tgt := 131) F d_M_holds_86 (by decide) ?_
    exact ret _ _ _ _ _ () d_M_holds_131 (by decide) (by decide) (by dsimp only; rw [stS_1 hz.2 ea ha', stT_n (kne hz.2 (by decide) (by decide) (by decide)), stM_n (kne hz.2 (by decide) (by decide) (by decide))]) trivial
  · refine j_tabIn (tgt := 89) F d_M_holds_20 2 hz.1 (by decide) (by decide) rfl (by decide) ?_
    obtain ⟨a', ha', ea⟩ := aok_2 hk hz.2
    rw [ea]
    refine j_aloadn F d_M_holds_89 2 rfl rfl ?_
    refine j_get (ci := 6) (v := .ref m7) F in_M hK 0 rfl rfl 10 (by decide) (wm k_476) rfl d_M_holds_90 ?_
    refine j_iloadn F d_M_holds_93 1 rfl rfl ?_
    refine j_iloadn F d_M_holds_94 0 rfl rfl ?_
    refine j_aloadn F d_M_holds_95 2 rfl rfl ?_
    refine j_get (ci := 6) (v := .ref m7) F in_M hK 0 rfl rfl 10 (by decide) (wm k_476) rfl d_M_holds_96 ?_
    refine j_iloadn F d_M_holds_99 1 rfl rfl ?_
    refine j_iald (v := tt a') F hK 7 0 rfl rfl (by omega) (by decide) d_M_holds_100 rfl ?_
    refine j_ic_le (tgt := 108) F d_M_holds_101 (by decide) (fun c_101 => ?_) (fun c_101 => ?_)
    · refine j_aloadn F d_M_holds_108 2 rfl rfl ?_
      refine j_get (ci := 6) (v := .ref m7) F in_M hK 0 rfl rfl 10 (by decide) (wm k_476) rfl d_M_holds_109 ?_
      refine j_iloadn F d_M_holds_112 1 rfl rfl ?_
      refine j_iald (v := tt a') F hK 7 0 rfl rfl (by omega) (by decide) d_M_holds_113 rfl ?_
      refine j_iast (ws' := [(m0, .inr (6, [.int th, .int now, .int (nI n), .int rf, .ref m1, .ref m2, .ref m3, .ref m4, .ref m5, .ref m6, .ref m7, .ref m8, .ref m9, .ref m10])), (m1, .inl (cA, 80, .inl (X 0))), (m2, .inl (cA, 80, .inl (X 1))), (m3, .inl (cA, 80, .inl (X 2))), (m4, .inl (cA, 80, .inl (X 3))), (m5, .inl (cA, 80, .inl (X 4))), (m6, .inl (cA, 20, .inl sl)), (m7, .inl (cA, 10, .inl (upd tt a' (tt a')))), (m8, .inl (cA, 10, .inl sm)), (m9, .inl (cA, 10, .inl hs)), (m10, .inl (cA, 64, .inl lt))]) F hK 7 0 rfl rfl (by omega) (by decide) d_M_holds_114 rfl ?_
      refine j_goto (tgt := 131) F d_M_holds_115 (by decide) ?_
      exact ret _ _ _ _ _ () d_M_holds_131 (by decide) (by decide) (by dsimp only; rw [stS_n (kne hz.2 (by decide) (by decide) (by decide)) (kne hz.2 (by decide) (by decide) (by decide)), stT_2 hz.2 ea ha', stM_n (kne hz.2 (by decide) (by decide) (by decide)), if_neg (fun h => jn_no h c_101)]) trivial
    · refine j_iloadn F d_M_holds_104 0 rfl rfl ?_
      refine j_goto (tgt := 114) F d_M_holds_105 (by decide) ?_
      refine j_iast (ws' := [(m0, .inr (6, [.int th, .int now, .int (nI n), .int rf, .ref m1, .ref m2, .ref m3, .ref m4, .ref m5, .ref m6, .ref m7, .ref m8, .ref m9, .ref m10])), (m1, .inl (cA, 80, .inl (X 0))), (m2, .inl (cA, 80, .inl (X 1))), (m3, .inl (cA, 80, .inl (X 2))), (m4, .inl (cA, 80, .inl (X 3))), (m5, .inl (cA, 80, .inl (X 4))), (m6, .inl (cA, 20, .inl sl)), (m7, .inl (cA, 10, .inl (upd tt a' ((X 2) e0)))), (m8, .inl (cA, 10, .inl sm)), (m9, .inl (cA, 10, .inl hs)), (m10, .inl (cA, 64, .inl lt))]) F hK 7 0 rfl rfl (by omega) (by decide) d_M_holds_114 rfl ?_
      refine j_goto (tgt := 131) F d_M_holds_115 (by decide) ?_
      exact ret _ _ _ _ _ () d_M_holds_131 (by decide) (by decide) (by dsimp only; rw [stS_n (kne hz.2 (by decide) (by decide) (by decide)) (kne hz.2 (by decide) (by decide) (by decide)), stT_2 hz.2 ea ha', stM_n (kne hz.2 (by decide) (by decide) (by decide)), if_pos (jn_nle c_101)]) trivial
  · refine j_tabIn (tgt := 118) F d_M_holds_20 3 hz.1 (by decide) (by decide) rfl (by decide) ?_
    obtain ⟨a', ha', ea⟩ := aok_3 hk hz.2
    rw [ea]
    refine j_aloadn F d_M_holds_118 2 rfl rfl ?_
    refine j_get (ci := 6) (v := .ref m8) F in_M hK 0 rfl rfl 11 (by decide) (wm k_477) rfl d_M_holds_119 ?_
    refine j_iloadn F d_M_holds_122 1 rfl rfl ?_
    refine j_dup2 F d_M_holds_123 rfl rfl ?_
    refine j_iald (v := sm a') F hK 8 0 rfl rfl (by omega) (by decide) d_M_holds_124 rfl ?_
    refine j_iloadn F d_M_holds_125 0 rfl rfl ?_
    refine j_iadd (v := (sm a') + ((X 2) e0)) F d_M_holds_126 rfl ?_
    refine j_iast (ws' := [(m0, .inr (6, [.int th, .int now, .int (nI n), .int rf, .ref m1, .ref m2, .ref m3, .ref m4, .ref m5, .ref m6, .ref m7, .ref m8, .ref m9, .ref m10])), (m1, .inl (cA, 80, .inl (X 0))), (m2, .inl (cA, 80, .inl (X 1))), (m3, .inl (cA, 80, .inl (X 2))), (m4, .inl (cA, 80, .inl (X 3))), (m5, .inl (cA, 80, .inl (X 4))), (m6, .inl (cA, 20, .inl sl)), (m7, .inl (cA, 10, .inl tt)), (m8, .inl (cA, 10, .inl (upd sm a' ((sm a') + ((X 2) e0))))), (m9, .inl (cA, 10, .inl hs)), (m10, .inl (cA, 64, .inl lt))]) F hK 8 0 rfl rfl (by omega) (by decide) d_M_holds_127 rfl ?_
    refine j_goto (tgt := 131) F d_M_holds_128 (by decide) ?_
    exact ret _ _ _ _ _ () d_M_holds_131 (by decide) (by decide) (by dsimp only; rw [stS_n (kne hz.2 (by decide) (by decide) (by decide)) (kne hz.2 (by decide) (by decide) (by decide)), stT_n (kne hz.2 (by decide) (by decide) (by decide)), stM_3 hz.2 ea ha']) trivial
  · refine j_tabOut (tgt := 131) F d_M_holds_20 hz.1 (by decide) ?_
    exact ret _ _ _ _ _ () d_M_holds_131 (by decide) (by decide) (by dsimp only; rw [stS_n (hz.2 0 (by decide)) (hz.2 1 (by decide)), stT_n (hz.2 2 (by decide)), stM_n (hz.2 3 (by decide))]) trivial

def rm_M_isAsked : Room := { frames := 1, cells := 0, slots := 0, locals := 20 }
set_option maxHeartbeats 4000000 in
set_option maxRecDepth 100000 in
theorem ct_M_isAsked_ok (l : Launch) (D : va_G) (cA : ClassId) (m0 m1 m2 m3 m4 m5 m6 m7 m8 m9 m10 : Nat) (th now : Int32) (n : Nat) (rf : Int32) (X : AF) (sl tt sm hs lt : Nat → Int32) (hA0 : aok X n) (b : Bool) (t k : Int32) (hb : (b && (win t (nI 0) (nI 10000) && win k (nI 0) (nI 10000))) = true) : Ci (S := Unit) l y_M_isAsked (Cond.code y_M_isAsked c_M_isAsked 4 (some .boolean) :: WD) rm_M_isAsked D vwCl [(cA, .int)] nws [.ref m0, .int (bI b), .int t, .int k] [(m0, .inr (6, [.int th, .int now, .int (nI n), .int rf, .ref m1, .ref m2, .ref m3, .ref m4, .ref m5, .ref m6, .ref m7, .ref m8, .ref m9, .ref m10])), (m1, .inl (cA, 80, .inl (X 0))), (m2, .inl (cA, 80, .inl (X 1))), (m3, .inl (cA, 80, .inl (X 2))), (m4, .inl (cA, 80, .inl (X 3))), (m5, .inl (cA, 80, .inl (X 4))), (m6, .inl (cA, 20, .inl sl)), (m7, .inl (cA, 10, .inl tt)), (m8, .inl (cA, 10, .inl sm)), (m9, .inl (cA, 10, .inl hs)), (m10, .inl (cA, 64, .inl lt))] 0 0 (fun r _ => r = bI true) (fun _ => [(m0, .inr (6, [.int (nI 0), .int now, .int (nI n), .int rf, .ref m1, .ref m2, .ref m3, .ref m4, .ref m5, .ref m6, .ref m7, .ref m8, .ref m9, .ref m10])), (m1, .inl (cA, 80, .inl (X 0))), (m2, .inl (cA, 80, .inl (X 1))), (m3, .inl (cA, 80, .inl (X 2))), (m4, .inl (cA, 80, .inl (X 3))), (m5, .inl (cA, 80, .inl (X 4))), (m6, .inl (cA, 20, .inl sl)), (m7, .inl (cA, 10, .inl tt)), (m8, .inl (cA, 10, .inl sm)), (m9, .inl (cA, 10, .inl hs)), (m10, .inl (cA, 64, .inl lt))]) := by
  refine Ci.of (cc := c_M_isAsked) (nL := 4) (lv := [(0, .ref m0), (1, .int (bI b)), (2, .int t), (3, .int k)]) (by decide) rfl (Nat.le_of_ble_eq_true rfl) rfl ?_
  intro p e s m args below meth cd A Q F hK hN hA ret
  rw [Bool.and_eq_true, Bool.and_eq_true] at hb
  refine j_aloadn F d_M_isAsked_0 0 rfl rfl ?_
  refine j_iloadn F d_M_isAsked_1 1 rfl rfl ?_
  refine j_if_eq (tgt := 23) F d_M_isAsked_2 (by decide) (fun c_2 => ?_) (fun c_2 => ?_)
  · exact absurd (bI_0 c_2) (by rw [hb.1]; decide)
  · refine j_iloadn F d_M_isAsked_5 2 rfl rfl ?_
    refine j_goi (wc := []) (wr := [(m0, .inr (6, [.int th, .int now, .int (nI n), .int rf, .ref m1, .ref m2, .ref m3, .ref m4, .ref m5, .ref m6, .ref m7, .ref m8, .ref m9, .ref m10])), (m1, .inl (cA, 80, .inl (X 0))), (m2, .inl (cA, 80, .inl (X 1))), (m3, .inl (cA, 80, .inl (X 2))), (m4, .inl (cA, 80, .inl (X 3))), (m5, .inl (cA, 80, .inl (X 4))), (m6, .inl (cA, 20, .inl sl)), (m7, .inl (cA, 10, .inl tt)), (m8, .inl (cA, 10, .inl sm)), (m9, .inl (cA, 10, .inl hs)), (m10, .inl (cA, 64, .inl lt))]) hA [] [0, 1, 2, 3, 4, 5, 6, 7, 8, 9, 10] rfl rfl (by decide) (by decide) (fun H locs ls hP hD hl => va_runS (As := [.int t]) (rest := [.ref m0]) F (ct_M_isTime l D cA t H.size) ⟨callB_of 1 F.2.2.2.2 (gd k_528) rfl rfl rfl (F.2.2.2.2 _ (wm k_7)) (F.2.2.2.2 _ (wm k_526)) (by decide +kernel) ⟨by decide, by decide⟩, F.2.2.2.2 _ (wm k_527)⟩ (pre_S hK hN hP hD [] rfl (by decide)) rfl rfl hl.1 rfl (lv_room (Nat.le_of_ble_eq_true rfl)) d_M_isAsked_6 ⟨by decide, by decide⟩) (fun r6 u6 hw6 => ?_)
    subst hw6
    refine j_ws (ws' := [(m0, .inr (6, [.int th, .int now, .int (nI n), .int rf, .ref m1, .ref m2, .ref m3, .ref m4, .ref m5, .ref m6, .ref m7, .ref m8, .ref m9, .ref m10])), (m1, .inl (cA, 80, .inl (X 0))), (m2, .inl (cA, 80, .inl (X 1))), (m3, .inl (cA, 80, .inl (X 2))), (m4, .inl (cA, 80, .inl (X 3))), (m5, .inl (cA, 80, .inl (X 4))), (m6, .inl (cA, 20, .inl sl)), (m7, .inl (cA, 10, .inl tt)), (m8, .inl (cA, 10, .inl sm)), (m9, .inl (cA, 10, .inl hs)), (m10, .inl (cA, 64, .inl lt))]) [0, 1, 2, 3, 4, 5, 6, 7, 8, 9, 10] (by decide) rfl ?_
    refine j_if_eq (tgt := 23) F d_M_isAsked_9 (by decide) (fun c_9 => ?_) (fun c_9 => ?_)
    · exact absurd (bI_0 c_9) (by rw [hb.2.1]; decide)
    · refine j_iloadn F d_M_isAsked_12 3 rfl rfl ?_
      refine j_goi (wc := []) (wr := [(m0, .inr (6, [.int th, .int now, .int (nI n), .int rf, .ref m1, .ref m2, .ref m3, .ref m4, .ref m5, .ref m6, .ref m7, .ref m8, .ref m9, .ref m10])), (m1, .inl (cA, 80, .inl (X 0))), (m2, .inl (cA, 80, .inl (X 1))), (m3, .inl (cA, 80, .inl (X 2))), (m4, .inl (cA, 80, .inl (X 3))), (m5, .inl (cA, 80, .inl (X 4))), (m6, .inl (cA, 20, .inl sl)), (m7, .inl (cA, 10, .inl tt)), (m8, .inl (cA, 10, .inl sm)), (m9, .inl (cA, 10, .inl hs)), (m10, .inl (cA, 64, .inl lt))]) hA [] [0, 1, 2, 3, 4, 5, 6, 7, 8, 9, 10] rfl rfl (by decide) (by decide) (fun H locs ls hP hD hl => va_runS (As := [.int k]) (rest := [.ref m0]) F (ct_M_isTime l D cA k H.size) ⟨callB_of 1 F.2.2.2.2 (gd k_528) rfl rfl rfl (F.2.2.2.2 _ (wm k_7)) (F.2.2.2.2 _ (wm k_526)) (by decide +kernel) ⟨by decide, by decide⟩, F.2.2.2.2 _ (wm k_527)⟩ (pre_S hK hN hP hD [] rfl (by decide)) rfl rfl hl.1 rfl (lv_room (Nat.le_of_ble_eq_true rfl)) d_M_isAsked_13 ⟨by decide, by decide⟩) (fun r13 u13 hw13 => ?_)
      subst hw13
      refine j_ws (ws' := [(m0, .inr (6, [.int th, .int now, .int (nI n), .int rf, .ref m1, .ref m2, .ref m3, .ref m4, .ref m5, .ref m6, .ref m7, .ref m8, .ref m9, .ref m10])), (m1, .inl (cA, 80, .inl (X 0))), (m2, .inl (cA, 80, .inl (X 1))), (m3, .inl (cA, 80, .inl (X 2))), (m4, .inl (cA, 80, .inl (X 3))), (m5, .inl (cA, 80, .inl (X 4))), (m6, .inl (cA, 20, .inl sl)), (m7, .inl (cA, 10, .inl tt)), (m8, .inl (cA, 10, .inl sm)), (m9, .inl (cA, 10, .inl hs)), (m10, .inl (cA, 64, .inl lt))]) [0, 1, 2, 3, 4, 5, 6, 7, 8, 9, 10] (by decide) rfl ?_
      refine j_if_eq (tgt := 23) F d_M_isAsked_16 (by decide) (fun c_16 => ?_) (fun c_16 => ?_)
      · exact absurd (bI_0 c_16) (by rw [hb.2.2]; decide)
      · refine j_iconst (v := nI 0) F d_M_isAsked_19 (by decide) ?_
        refine j_goto (tgt := 24) F d_M_isAsked_20 (by decide) ?_
        refine j_put (ci := 6) (v := .int (nI 0)) (ty := .int) (ws' := [(m0, .inr (6, [.int (nI 0), .int now, .int (nI n), .int rf, .ref m1, .ref m2, .ref m3, .ref m4, .ref m5, .ref m6, .ref m7, .ref m8, .ref m9, .ref m10])), (m1, .inl (cA, 80, .inl (X 0))), (m2, .inl (cA, 80, .inl (X 1))), (m3, .inl (cA, 80, .inl (X 2))), (m4, .inl (cA, 80, .inl (X 3))), (m5, .inl (cA, 80, .inl (X 4))), (m6, .inl (cA, 20, .inl sl)), (m7, .inl (cA, 10, .inl tt)), (m8, .inl (cA, 10, .inl sm)), (m9, .inl (cA, 10, .inl hs)), (m10, .inl (cA, 64, .inl lt))]) F in_M ty_M tk_M nm_M hK 0 rfl rfl 0 (by decide) (wm k_466) rfl (by decide +kernel) rfl rfl (Nat.le_of_ble_eq_true rfl) d_M_isAsked_24 rfl ?_
        refine j_aloadn F d_M_isAsked_27 0 rfl rfl ?_
        refine j_get (ci := 6) (v := .int (nI 0)) F in_M hK 0 rfl rfl 0 (by decide) (wm k_466) rfl d_M_isAsked_28 ?_
        refine j_if_ne (tgt := 38) F d_M_isAsked_31 (by decide) (fun c_31 => ?_) (fun c_31 => ?_)
        · have c_31 : ¬ 0 = 0 := fun h => c_31 ((nI_eq (by omega) (by omega)).mpr h)
          exact absurd rfl c_31
        · have c_31 : 0 = 0 := (nI_eq (by omega) (by omega)).mp c_31
          refine j_iconst (v := nI 1) F d_M_isAsked_34 (by decide) ?_
          refine j_goto (tgt := 39) F d_M_isAsked_35 (by decide) ?_
          exact ret _ _ _ _ _ _ () d_M_isAsked_39 rfl (by decide) (by decide) rfl rfl

set_option maxHeartbeats 4000000 in
set_option maxRecDepth 100000 in
theorem ct_M_isAsked_no (l : Launch) (D : va_G) (cA : ClassId) (m0 m1 m2 m3 m4 m5 m6 m7 m8 m9 m10 : Nat) (th now : Int32) (n : Nat) (rf : Int32) (X : AF) (sl tt sm hs lt : Nat → Int32) (hA0 : aok X n) (b : Bool) (t k : Int32) (hb : (b && (win t (nI 0) (nI 10000) && win k (nI 0) (nI 10000))) = false) : Ci (S := Unit) l y_M_isAsked (Cond.code y_M_isAsked c_M_isAsked 4 (some .boolean) :: WD) rm_M_isAsked D vwCl [(cA, .int)] nws [.ref m0, .int (bI b), .int t, .int k] [(m0, .inr (6, [.int th, .int now, .int (nI n), .int rf, .ref m1, .ref m2, .ref m3, .ref m4, .ref m5, .ref m6, .ref m7, .ref m8, .ref m9, .ref m10])), (m1, .inl (cA, 80, .inl (X 0))), (m2, .inl (cA, 80, .inl (X 1))), (m3, .inl (cA, 80, .inl (X 2))), (m4, .inl (cA, 80, .inl (X 3))), (m5, .inl (cA, 80, .inl (X 4))), (m6, .inl (cA, 20, .inl sl)), (m7, .inl (cA, 10, .inl tt)), (m8, .inl (cA, 10, .inl sm)), (m9, .inl (cA, 10, .inl hs)), (m10, .inl (cA, 64, .inl lt))] 0 0 (fun r _ => r = bI false) (fun _ => [(m0, .inr (6, [.int (nI 1), .int now, .int (nI n), .int rf, .ref m1, .ref m2, .ref m3, .ref m4, .ref m5, .ref m6, .ref m7, .ref m8, .ref m9, .ref m10])), (m1, .inl (cA, 80, .inl (X 0))), (m2, .inl (cA, 80, .inl (X 1))), (m3, .inl (cA, 80, .inl (X 2))), (m4, .inl (cA, 80, .inl (X 3))), (m5, .inl (cA, 80, .inl (X 4))), (m6, .inl (cA, 20, .inl sl)), (m7, .inl (cA, 10, .inl tt)), (m8, .inl (cA, 10, .inl sm)), (m9, .inl (cA, 10, .inl hs)), (m10, .inl (cA, 64, .inl lt))]) := by
  refine Ci.of (cc := c_M_isAsked) (nL := 4) (lv := [(0, .ref m0), (1, .int (bI b)), (2, .int t), (3, .int k)]) (by decide) rfl (Nat.le_of_ble_eq_true rfl) rfl ?_
  intro p e s m args below meth cd A Q F hK hN hA ret
  refine j_aloadn F d_M_isAsked_0 0 rfl rfl ?_
  refine j_iloadn F d_M_isAsked_1 1 rfl rfl ?_
  refine j_if_eq (tgt := 23) F d_M_isAsked_2 (by decide) (fun c_2 => ?_) (fun c_2 => ?_)
  · refine j_iconst (v := nI 1) F d_M_isAsked_23 (by decide) ?_
    refine j_put (ci := 6) (v := .int (nI 1)) (ty := .int) (ws' := [(m0, .inr (6, [.int (nI 1), .int now, .int (nI n), .int rf, .ref m1, .ref m2, .ref m3, .ref m4, .ref m5, .ref m6, .ref m7, .ref m8, .ref m9, .ref m10])), (m1, .inl (cA, 80, .inl (X 0))), (m2, .inl (cA, 80, .inl (X 1))), (m3, .inl (cA, 80, .inl (X 2))), (m4, .inl (cA, 80, .inl (X 3))), (m5, .inl (cA, 80, .inl (X 4))), (m6, .inl (cA, 20, .inl sl)), (m7, .inl (cA, 10, .inl tt)), (m8, .inl (cA, 10, .inl sm)), (m9, .inl (cA, 10, .inl hs)), (m10, .inl (cA, 64, .inl lt))]) F in_M ty_M tk_M nm_M hK 0 rfl rfl 0 (by decide) (wm k_466) rfl (by decide +kernel) rfl rfl (Nat.le_of_ble_eq_true rfl) d_M_isAsked_24 rfl ?_
    refine j_aloadn F d_M_isAsked_27 0 rfl rfl ?_
    refine j_get (ci := 6) (v := .int (nI 1)) F in_M hK 0 rfl rfl 0 (by decide) (wm k_466) rfl d_M_isAsked_28 ?_
    refine j_if_ne (tgt := 38) F d_M_isAsked_31 (by decide) (fun c_31 => ?_) (fun c_31 => ?_)
    · have c_31 : ¬ 1 = 0 := fun h => c_31 ((nI_eq (by omega) (by omega)).mpr h)
      refine j_iconst (v := nI 0) F d_M_isAsked_38 (by decide) ?_
      exact ret _ _ _ _ _ _ () d_M_isAsked_39 rfl (by decide) (by decide) rfl rfl
    · have c_31 : 1 = 0 := (nI_eq (by omega) (by omega)).mp c_31
      exact absurd c_31 (by decide)
  · have e1 := bI_1 c_2
    refine j_iloadn F d_M_isAsked_5 2 rfl rfl ?_
    refine j_goi (wc := []) (wr := [(m0, .inr (6, [.int th, .int now, .int (nI n), .int rf, .ref m1, .ref m2, .ref m3, .ref m4, .ref m5, .ref m6, .ref m7, .ref m8, .ref m9, .ref m10])), (m1, .inl (cA, 80, .inl (X 0))), (m2, .inl (cA, 80, .inl (X 1))), (m3, .inl (cA, 80, .inl (X 2))), (m4, .inl (cA, 80, .inl (X 3))), (m5, .inl (cA, 80, .inl (X 4))), (m6, .inl (cA, 20, .inl sl)), (m7, .inl (cA, 10, .inl tt)), (m8, .inl (cA, 10, .inl sm)), (m9, .inl (cA, 10, .inl hs)), (m10, .inl (cA, 64, .inl lt))]) hA [] [0, 1, 2, 3, 4, 5, 6, 7, 8, 9, 10] rfl rfl (by decide) (by decide) (fun H locs ls hP hD hl => va_runS (As := [.int t]) (rest := [.ref m0]) F (ct_M_isTime l D cA t H.size) ⟨callB_of 1 F.2.2.2.2 (gd k_528) rfl rfl rfl (F.2.2.2.2 _ (wm k_7)) (F.2.2.2.2 _ (wm k_526)) (by decide +kernel) ⟨by decide, by decide⟩, F.2.2.2.2 _ (wm k_527)⟩ (pre_S hK hN hP hD [] rfl (by decide)) rfl rfl hl.1 rfl (lv_room (Nat.le_of_ble_eq_true rfl)) d_M_isAsked_6 ⟨by decide, by decide⟩) (fun r6 u6 hw6 => ?_)
    subst hw6
    refine j_ws (ws' := [(m0, .inr (6, [.int th, .int now, .int (nI n), .int rf, .ref m1, .ref m2, .ref m3, .ref m4, .ref m5, .ref m6, .ref m7, .ref m8, .ref m9, .ref m10])), (m1, .inl (cA, 80, .inl (X 0))), (m2, .inl (cA, 80, .inl (X 1))), (m3, .inl (cA, 80, .inl (X 2))), (m4, .inl (cA, 80, .inl (X 3))), (m5, .inl (cA, 80, .inl (X 4))), (m6, .inl (cA, 20, .inl sl)), (m7, .inl (cA, 10, .inl tt)), (m8, .inl (cA, 10, .inl sm)), (m9, .inl (cA, 10, .inl hs)), (m10, .inl (cA, 64, .inl lt))]) [0, 1, 2, 3, 4, 5, 6, 7, 8, 9, 10] (by decide) rfl ?_
    refine j_if_eq (tgt := 23) F d_M_isAsked_9 (by decide) (fun c_9 => ?_) (fun c_9 => ?_)
    · refine j_iconst (v := nI 1) F d_M_isAsked_23 (by decide) ?_
      refine j_put (ci := 6) (v := .int (nI 1)) (ty := .int) (ws' := [(m0, .inr (6, [.int (nI 1), .int now, .int (nI n), .int rf, .ref m1, .ref m2, .ref m3, .ref m4, .ref m5, .ref m6, .ref m7, .ref m8, .ref m9, .ref m10])), (m1, .inl (cA, 80, .inl (X 0))), (m2, .inl (cA, 80, .inl (X 1))), (m3, .inl (cA, 80, .inl (X 2))), (m4, .inl (cA, 80, .inl (X 3))), (m5, .inl (cA, 80, .inl (X 4))), (m6, .inl (cA, 20, .inl sl)), (m7, .inl (cA, 10, .inl tt)), (m8, .inl (cA, 10, .inl sm)), (m9, .inl (cA, 10, .inl hs)), (m10, .inl (cA, 64, .inl lt))]) F in_M ty_M tk_M nm_M hK 0 rfl rfl 0 (by decide) (wm k_466) rfl (by decide +kernel) rfl rfl (Nat.le_of_ble_eq_true rfl) d_M_isAsked_24 rfl ?_
      refine j_aloadn F d_M_isAsked_27 0 rfl rfl ?_
      refine j_get (ci := 6) (v := .int (nI 1)) F in_M hK 0 rfl rfl 0 (by decide) (wm k_466) rfl d_M_isAsked_28 ?_
      refine j_if_ne (tgt := 38) F d_M_isAsked_31 (by decide) (fun c_31 => ?_) (fun c_31 => ?_)
      · have c_31 : ¬ 1 = 0 := fun h => c_31 ((nI_eq (by omega) (by omega)).mpr h)
        refine j_iconst (v := nI 0) F d_M_isAsked_38 (by decide) ?_
        exact ret _ _ _ _ _ _ () d_M_isAsked_39 rfl (by decide) (by decide) rfl rfl
      · have c_31 : 1 = 0 := (nI_eq (by omega) (by omega)).mp c_31
        exact absurd c_31 (by decide)
    · have e2 := bI_1 c_9
      refine j_iloadn F d_M_isAsked_12 3 rfl rfl ?_
      refine j_goi (wc := []) (wr := [(m0, .inr (6, [.int th, .int now, .int (nI n), .int rf, .ref m1, .ref m2, .ref m3, .ref m4, .ref m5, .ref m6, .ref m7, .ref m8, .ref m9, .ref m10])), (m1, .inl (cA, 80, .inl (X 0))), (m2, .inl (cA, 80, .inl (X 1))), (m3, .inl (cA, 80, .inl (X 2))), (m4, .inl (cA, 80, .inl (X 3))), (m5, .inl (cA, 80, .inl (X 4))), (m6, .inl (cA, 20, .inl sl)), (m7, .inl (cA, 10, .inl tt)), (m8, .inl (cA, 10, .inl sm)), (m9, .inl (cA, 10, .inl hs)), (m10, .inl (cA, 64, .inl lt))]) hA [] [0, 1, 2, 3, 4, 5, 6, 7, 8, 9, 10] rfl rfl (by decide) (by decide) (fun H locs ls hP hD hl => va_runS (As := [.int k]) (rest := [.ref m0]) F (ct_M_isTime l D cA k H.size) ⟨callB_of 1 F.2.2.2.2 (gd k_528) rfl rfl rfl (F.2.2.2.2 _ (wm k_7)) (F.2.2.2.2 _ (wm k_526)) (by decide +kernel) ⟨by decide, by decide⟩, F.2.2.2.2 _ (wm k_527)⟩ (pre_S hK hN hP hD [] rfl (by decide)) rfl rfl hl.1 rfl (lv_room (Nat.le_of_ble_eq_true rfl)) d_M_isAsked_13 ⟨by decide, by decide⟩) (fun r13 u13 hw13 => ?_)
      subst hw13
      refine j_ws (ws' := [(m0, .inr (6, [.int th, .int now, .int (nI n), .int rf, .ref m1, .ref m2, .ref m3, .ref m4, .ref m5, .ref m6, .ref m7, .ref m8, .ref m9, .ref m10])), (m1, .inl (cA, 80, .inl (X 0))), (m2, .inl (cA, 80, .inl (X 1))), (m3, .inl (cA, 80, .inl (X 2))), (m4, .inl (cA, 80, .inl (X 3))), (m5, .inl (cA, 80, .inl (X 4))), (m6, .inl (cA, 20, .inl sl)), (m7, .inl (cA, 10, .inl tt)), (m8, .inl (cA, 10, .inl sm)), (m9, .inl (cA, 10, .inl hs)), (m10, .inl (cA, 64, .inl lt))]) [0, 1, 2, 3, 4, 5, 6, 7, 8, 9, 10] (by decide) rfl ?_
      refine j_if_eq (tgt := 23) F d_M_isAsked_16 (by decide) (fun c_16 => ?_) (fun c_16 => ?_)
      · refine j_iconst (v := nI 1) F d_M_isAsked_23 (by decide) ?_
        refine j_put (ci := 6) (v := .int (nI 1)) (ty := .int) (ws' := [(m0, .inr (6, [.int (nI 1), .int now, .int (nI n), .int rf, .ref m1, .ref m2, .ref m3, .ref m4, .ref m5, .ref m6, .ref m7, .ref m8, .ref m9, .ref m10])), (m1, .inl (cA, 80, .inl (X 0))), (m2, .inl (cA, 80, .inl (X 1))), (m3, .inl (cA, 80, .inl (X 2))), (m4, .inl (cA, 80, .inl (X 3))), (m5, .inl (cA, 80, .inl (X 4))), (m6, .inl (cA, 20, .inl sl)), (m7, .inl (cA, 10, .inl tt)), (m8, .inl (cA, 10, .inl sm)), (m9, .inl (cA, 10, .inl hs)), (m10, .inl (cA, 64, .inl lt))]) F in_M ty_M tk_M nm_M hK 0 rfl rfl 0 (by decide) (wm k_466) rfl (by decide +kernel) rfl rfl (Nat.le_of_ble_eq_true rfl) d_M_isAsked_24 rfl ?_
        refine j_aloadn F d_M_isAsked_27 0 rfl rfl ?_
        refine j_get (ci := 6) (v := .int (nI 1)) F in_M hK 0 rfl rfl 0 (by decide) (wm k_466) rfl d_M_isAsked_28 ?_
        refine j_if_ne (tgt := 38) F d_M_isAsked_31 (by decide) (fun c_31 => ?_) (fun c_31 => ?_)
        · have c_31 : ¬ 1 = 0 := fun h => c_31 ((nI_eq (by omega) (by omega)).mpr h)
          refine j_iconst (v := nI 0) F d_M_isAsked_38 (by decide) ?_
          exact ret _ _ _ _ _ _ () d_M_isAsked_39 rfl (by decide) (by decide) rfl rfl
        · have c_31 : 1 = 0 := (nI_eq (by omega) (by omega)).mp c_31
          exact absurd c_31 (by decide)
      · exact absurd hb (by rw [e1, e2, bI_1 c_16]; decide)

theorem jn_far {a b : Nat} (ha : a < 1000) (hb : b < 1000) : (¬ nI 0 ≤ nI a - nI b → -(nI a - nI b) = nI (adf a b)) ∧ (nI 0 ≤ nI a - nI b → nI a - nI b = nI (adf a b)) := by
  have h := jn_abs ha hb
  constructor
  · intro q
    rw [if_neg (by rw [← nI_0]; exact q), Int32.zero_sub] at h
    exact h
  · intro q
    rw [if_pos (by rw [← nI_0]; exact q)] at h
    exact h

def rm_M_far : Room := { frames := 0, cells := 0, slots := 0, locals := 0 }
set_option maxHeartbeats 4000000 in
set_option maxRecDepth 100000 in
theorem ct_M_far (l : Launch) (D : va_G) (cA : ClassId) (a b : Nat) (ha : a < 1000) (hb : b < 1000) : Ci (S := Unit) l y_M_far (Cond.code y_M_far c_M_far 1 (some .int) :: WD) rm_M_far D vwCl [(cA, .int)] nws [.int (nI a - nI b)] [] 0 0 (fun r _ => r = nI (adf a b)) (fun _ => []) := by
  refine Ci.of (cc := c_M_far) (nL := 1) (lv := [(0, .int (nI a - nI b))]) (by decide) rfl (Nat.le_of_ble_eq_true rfl) rfl ?_
  intro p e s m args below meth cd A Q F hK hN hA ret
  refine j_iloadn F d_M_far_0 0 rfl rfl ?_
  refine j_if_ge (tgt := 9) F d_M_far_1 (by decide) (fun c_1 => ?_) (fun c_1 => ?_)
  · refine j_iloadn F d_M_far_9 0 rfl rfl ?_
    exact ret _ _ _ _ _ _ () d_M_far_10 rfl (by decide) (by decide) rfl ((jn_far ha hb).2 c_1)
  · refine j_iloadn F d_M_far_4 0 rfl rfl ?_
    refine j_ineg (v := -(nI a - nI b)) F d_M_far_5 rfl ?_
    refine j_goto (tgt := 10) F d_M_far_6 (by decide) ?_
    exact ret _ _ _ _ _ _ () d_M_far_10 rfl (by decide) (by decide) rfl ((jn_far ha hb).1 c_1)

def rm_M_distance : Room := { frames := 1, cells := 0, slots := 0, locals := 20 }
set_option maxHeartbeats 4000000 in
set_option maxRecDepth 100000 in
theorem ct_M_distance (l : Launch) (D : va_G) (cA : ClassId) (f t : Nat) (hf : f < 100) (ht : t < 100) : Ci (S := Unit) l y_M_distance (Cond.code y_M_distance c_M_distance 2 (some .int) :: WD) rm_M_distance D vwCl [(cA, .int)] nws [.int (nI f), .int (nI t)] [] 0 0 (fun r _ => r = nI (dst f t)) (fun _ => []) := by
  refine Ci.of (cc := c_M_distance) (nL := 2) (lv := [(0, .int (nI f)), (1, .int (nI t))]) (by decide) rfl (Nat.le_of_ble_eq_true rfl) rfl ?_
  intro p e s m args below meth cd A Q F hK hN hA ret
  refine j_iloadn F d_M_distance_0 0 rfl rfl ?_
  refine j_bipush (v := nI 10) F d_M_distance_1 (by decide) ?_
  refine j_idiv (v := nI (f / 10)) F d_M_distance_3 (nI_ne0 (by omega) (by omega)) (pk_div (by omega) (by omega) (by omega)) ?_
  refine j_iloadn F d_M_distance_4 1 rfl rfl ?_
  refine j_bipush (v := nI 10) F d_M_distance_5 (by decide) ?_
  refine j_idiv (v := nI (t / 10)) F d_M_distance_7 (nI_ne0 (by omega) (by omega)) (pk_div (by omega) (by omega) (by omega)) ?_
  refine j_isub (v := nI (f / 10) - nI (t / 10)) F d_M_distance_8 rfl ?_
  refine j_goi (wc := []) (wr := []) hA [] [] rfl rfl (by decide) (by decide) (fun H locs ls hP hD hl => va_runS (As := [.int (nI (f / 10) - nI (t / 10))]) (rest := []) F (ct_M_far l D cA (f / 10) (t / 10) (by omega) (by omega) H.size) ⟨callB_of 1 F.2.2.2.2 (gd k_602) rfl rfl rfl (F.2.2.2.2 _ (wm k_7)) (F.2.2.2.2 _ (wm k_600)) (by decide +kernel) ⟨by decide, by decide⟩, F.2.2.2.2 _ (wm k_601)⟩ (pre_S hK hN hP hD [] rfl (by decide)) rfl rfl hl.1 rfl (lv_room (Nat.le_of_ble_eq_true rfl)) d_M_distance_9 ⟨by decide, by decide⟩) (fun r9 u9 hw9 => ?_)
  subst hw9
  refine j_ws (ws' := []) [] (by decide) rfl ?_
  refine j_iloadn F d_M_distance_12 0 rfl rfl ?_
  refine j_bipush (v := nI 10) F d_M_distance_13 (by decide) ?_
  refine j_irem (v := nI (f % 10)) F d_M_distance_15 (nI_ne0 (by omega) (by omega)) (pk_rem (by omega) (by omega) (by omega)) ?_
  refine j_iloadn F d_M_distance_16 1 rfl rfl ?_
  refine j_bipush (v := nI 10) F d_M_distance_17 (by decide) ?_
  refine j_irem (v := nI (t % 10)) F d_M_distance_19 (nI_ne0 (by omega) (by omega)) (pk_rem (by omega) (by omega) (by omega)) ?_
  refine j_isub (v := nI (f % 10) - nI (t % 10)) F d_M_distance_20 rfl ?_
  refine j_goi (wc := []) (wr := []) hA [] [] rfl rfl (by decide) (by decide) (fun H locs ls hP hD hl => va_runS (As := [.int (nI (f % 10) - nI (t % 10))]) (rest := [.int (nI (adf (f / 10) (t / 10)))]) F (ct_M_far l D cA (f % 10) (t % 10) (by omega) (by omega) H.size) ⟨callB_of 1 F.2.2.2.2 (gd k_602) rfl rfl rfl (F.2.2.2.2 _ (wm k_7)) (F.2.2.2.2 _ (wm k_600)) (by decide +kernel) ⟨by decide, by decide⟩, F.2.2.2.2 _ (wm k_601)⟩ (pre_S hK hN hP hD [] rfl (by decide)) rfl rfl hl.1 rfl (lv_room (Nat.le_of_ble_eq_true rfl)) d_M_distance_21 ⟨by decide, by decide⟩) (fun r21 u21 hw21 => ?_)
  subst hw21
  refine j_ws (ws' := []) [] (by decide) rfl ?_
  refine j_iadd (v := nI ((adf (f / 10) (t / 10)) + (adf (f % 10) (t % 10)))) F d_M_distance_24 (nI_add _ _) ?_
  exact ret _ _ _ _ _ _ () d_M_distance_25 rfl (by decide) (by decide) rfl rfl
