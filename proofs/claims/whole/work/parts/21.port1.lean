theorem has_of {n e : Nat} (h : e < n) (hn : n < 2147483648) : hasB n (nI e) = true := by
  unfold hasB
  rw [decide_eq_true (nI_le (Nat.zero_le e) (by omega)), decide_eq_true ((nI_ltI (by omega) hn).mpr h)]; rfl
theorem win_of {x : Int32} {j hi : Nat} (e : x = nI j) (h : j ≤ hi) (hh : hi < 2147483648) : win x (nI 0) (nI hi) = true := by
  rw [e]
  unfold win
  rw [decide_eq_true (nI_le (Nat.zero_le j) (by omega)), decide_eq_true (nI_le h hh)]; rfl
def rm_X_requireBelow : Room := { frames := 6, cells := 0, slots := 0, locals := 92 }
set_option maxHeartbeats 4000000 in
set_option maxRecDepth 100000 in
theorem ct_X_requireBelow (l : Launch) (D : va_G) (cA : ClassId) (x : Int32) (bd : Nat) (hbd : 1 ≤ bd) (h : win x (nI 0) (nI (bd - 1)) = true) : Cv (S := Unit) l y_X_requireBelow (Cond.code y_X_requireBelow c_X_requireBelow 2 none :: WD) rm_X_requireBelow D vwCl [(cA, .int)] nws [.int x, .int (nI bd)] [] 0 0 (fun _ => True) (fun _ => []) := by
  refine Cv.of (cc := c_X_requireBelow) (nL := 2) (lv := [(0, .int x), (1, .int (nI bd))]) (by decide) rfl (Nat.le_of_ble_eq_true rfl) rfl ?_
  intro p e s m args below meth cd A Q F hK hN hA hinit ret
  refine j_iloadn F d_X_requireBelow_0 0 rfl rfl ?_
  refine j_iconst (v := nI 0) F d_X_requireBelow_1 (by decide) ?_
  refine j_iloadn F d_X_requireBelow_2 1 rfl rfl ?_
  refine j_iconst (v := nI 1) F d_X_requireBelow_3 (by decide) ?_
  refine j_isub (v := nI (bd - 1)) F d_X_requireBelow_4 (pk_sub (by omega)) ?_
  refine j_goi (wc := []) (wr := []) hA [] [] rfl rfl (by decide) (by decide) (fun H locs ls hP hD hl => va_runS (As := [.int x, .int (nI 0), .int (nI (bd - 1))]) (rest := []) F (ct_X_isWithin l D cA x (nI 0) (nI (bd - 1)) H.size) ⟨callB_of 3 F.2.2.2.2 (gd k_172) rfl rfl rfl (F.2.2.2.2 _ (wm k_1)) (F.2.2.2.2 _ (wm k_170)) (by decide +kernel) ⟨by decide, by decide⟩, F.2.2.2.2 _ (wm k_171)⟩ (pre_S hK hN hP hD [] rfl (by decide)) rfl rfl hl.1 rfl (lv_room (Nat.le_of_ble_eq_true rfl)) d_X_requireBelow_5 ⟨by decide, by decide⟩) (fun r5 u5 hw5 => ?_)
  subst hw5
  refine j_ws (ws' := []) [] (by decide) rfl ?_
  refine j_if_ne (tgt := 21) F d_X_requireBelow_8 (by decide) (fun c_8 => ?_) (fun c_8 => ?_)
  · exact ret _ _ _ _ _ () d_X_requireBelow_21 (by decide) (by decide) rfl trivial
  · exact absurd (bI_0 c_8) (by rw [h]; decide)

def rmx_X_requireBelow : Room := { frames := 6, cells := 1, slots := 6, locals := 92 }
set_option maxHeartbeats 4000000 in
set_option maxRecDepth 100000 in
theorem cx_X_requireBelow (l : Launch) (hst : l.stackTraces = false) (D : va_G) (cA : ClassId) (x : Int32) (bd : Nat) (hbd : 1 ≤ bd) (h : win x (nI 0) (nI (bd - 1)) = false) : Cx (S := Unit) l y_X_requireBelow (Cond.code y_X_requireBelow c_X_requireBelow 2 none :: WD) rmx_X_requireBelow D vwCl [(cA, .int)] nws [.int x, .int (nI bd)] [] 1 6 "java/lang/IllegalArgumentException" (fun _ => True) (fun _ => []) := by
  refine Cx.of (cc := c_X_requireBelow) (nL := 2) (ret := none) (lv := [(0, .int x), (1, .int (nI bd))]) hst (by decide) rfl (Nat.le_of_ble_eq_true rfl) rfl ?_
  intro p e s m args below meth cd A Q F hK hN hE hA thr out
  refine j_iloadn F d_X_requireBelow_0 0 rfl rfl ?_
  refine j_iconst (v := nI 0) F d_X_requireBelow_1 (by decide) ?_
  refine j_iloadn F d_X_requireBelow_2 1 rfl rfl ?_
  refine j_iconst (v := nI 1) F d_X_requireBelow_3 (by decide) ?_
  refine j_isub (v := nI (bd - 1)) F d_X_requireBelow_4 (pk_sub (by omega)) ?_
  refine j_goi (wc := []) (wr := []) hA [] [] rfl rfl (by decide) (by decide) (fun H locs ls hP hD hl => va_runS (As := [.int x, .int (nI 0), .int (nI (bd - 1))]) (rest := []) F (ct_X_isWithin l D cA x (nI 0) (nI (bd - 1)) H.size) ⟨callB_of 3 F.2.2.2.2 (gd k_172) rfl rfl rfl (F.2.2.2.2 _ (wm k_1)) (F.2.2.2.2 _ (wm k_170)) (by decide +kernel) ⟨by decide, by decide⟩, F.2.2.2.2 _ (wm k_171)⟩ (pre_S hK hN hP hD [] rfl (by decide)) rfl rfl hl.1 rfl (lv_room (Nat.le_of_ble_eq_true rfl)) d_X_requireBelow_5 ⟨by decide, by decide⟩) (fun r5 u5 hw5 => ?_)
  subst hw5
  refine j_ws (ws' := []) [] (by decide) rfl ?_
  refine j_if_ne (tgt := 21) F d_X_requireBelow_8 (by decide) (fun c_8 => ?_) (fun c_8 => ?_)
  · exact absurd (bI_1 c_8) (by rw [h]; decide)
  · exact thr _ _ _ _ _ _ 152 163 156 "no such number" nmE () d_X_requireBelow_11 d_X_requireBelow_14 d_X_requireBelow_15 d_X_requireBelow_17 d_X_requireBelow_20 (by decide +kernel) (by decide +kernel) (wm k_216) (wm k_11) hE.2.2.1 (hatA F.2.2.2.2 hN) gdA (by decide) (Nat.le_of_ble_eq_true rfl) (by decide) (by decide) (by decide) (by decide) rfl trivial

def rm_X_gather : Room := { frames := 6, cells := 0, slots := 0, locals := 92 }
set_option maxHeartbeats 4000000 in
set_option maxRecDepth 100000 in
theorem ct_X_gather (l : Launch) (D : va_G) (cA : ClassId) (x0 y2 y3 y4 y5 : Nat) (now rf : Int32) (o0 o1 : Nat) (z : Int32) (f : Nat → Int32) (a0 a1 a2 a3 a4 a5 : Nat) (X : AF) (n : Nat) (hA0 : aok X n) (t k : Int32) (ht : win t (nI 0) (nI 10000) = true) (hk : win k (nI 0) (nI 10000) = true) : Cv (S := (Nat → Int32)) l y_X_gather (Cond.code y_X_gather c_X_gather 3 none :: WD) rm_X_gather D vwCl [(cA, .int)] nws [.ref x0, .int t, .int k] [(x0, .inr (5, [.ref a0, .ref o0, .ref y2, .ref y3, .ref y4, .ref y5, .int now, .int rf])), (a0, .inr (0, [.ref a1, .ref a2, .ref a3, .ref a4, .ref a5, .int (nI n)])), (a1, .inl (cA, 80, .inl (X 0))), (a2, .inl (cA, 80, .inl (X 1))), (a3, .inl (cA, 80, .inl (X 2))), (a4, .inl (cA, 80, .inl (X 3))), (a5, .inl (cA, 80, .inl (X 4))), (o0, .inr (2, [.ref o1, .int z])), (o1, .inl (cA, 80, .inl f))] 0 0 (fun u => rowL u (ordL X n t k)) (fun u => [(x0, .inr (5, [.ref a0, .ref o0, .ref y2, .ref y3, .ref y4, .ref y5, .int now, .int rf])), (a0, .inr (0, [.ref a1, .ref a2, .ref a3, .ref a4, .ref a5, .int (nI n)])), (a1, .inl (cA, 80, .inl (X 0))), (a2, .inl (cA, 80, .inl (X 1))), (a3, .inl (cA, 80, .inl (X 2))), (a4, .inl (cA, 80, .inl (X 3))), (a5, .inl (cA, 80, .inl (X 4))), (o0, .inr (2, [.ref o1, .int (nI ((ordL X n t k).length))])), (o1, .inl (cA, 80, .inl u))]) := by
  refine Cv.of (cc := c_X_gather) (nL := 3) (lv := [(0, .ref x0), (1, .int t), (2, .int k)]) (by decide) rfl (Nat.le_of_ble_eq_true rfl) rfl ?_
  intro p e s m args below meth cd A Q F hK hN hA hinit ret
  refine j_iloadn F d_X_gather_0 1 rfl rfl ?_
  refine j_goi (wc := []) (wr := [(x0, .inr (5, [.ref a0, .ref o0, .ref y2, .ref y3, .ref y4, .ref y5, .int now, .int rf])), (a0, .inr (0, [.ref a1, .ref a2, .ref a3, .ref a4, .ref a5, .int (nI n)])), (a1, .inl (cA, 80, .inl (X 0))), (a2, .inl (cA, 80, .inl (X 1))), (a3, .inl (cA, 80, .inl (X 2))), (a4, .inl (cA, 80, .inl (X 3))), (a5, .inl (cA, 80, .inl (X 4))), (o0, .inr (2, [.ref o1, .int z])), (o1, .inl (cA, 80, .inl f))]) hA [] [0, 1, 2, 3, 4, 5, 6, 7, 8] rfl rfl (by decide) (by decide) (fun H locs ls hP hD hl => va_runS (As := [.int t]) (rest := []) F (ct_X_isTime l D cA t H.size) ⟨callB_of 1 F.2.2.2.2 (gd k_169) rfl rfl rfl (F.2.2.2.2 _ (wm k_1)) (F.2.2.2.2 _ (wm k_167)) (by decide +kernel) ⟨by decide, by decide⟩, F.2.2.2.2 _ (wm k_168)⟩ (pre_S hK hN hP hD [] rfl (by decide)) rfl rfl hl.1 rfl (lv_room (Nat.le_of_ble_eq_true rfl)) d_X_gather_1 ⟨by decide, by decide⟩) (fun r1 u1 hw1 => ?_)
  subst hw1
  refine j_ws (ws' := [(x0, .inr (5, [.ref a0, .ref o0, .ref y2, .ref y3, .ref y4, .ref y5, .int now, .int rf])), (a0, .inr (0, [.ref a1, .ref a2, .ref a3, .ref a4, .ref a5, .int (nI n)])), (a1, .inl (cA, 80, .inl (X 0))), (a2, .inl (cA, 80, .inl (X 1))), (a3, .inl (cA, 80, .inl (X 2))), (a4, .inl (cA, 80, .inl (X 3))), (a5, .inl (cA, 80, .inl (X 4))), (o0, .inr (2, [.ref o1, .int z])), (o1, .inl (cA, 80, .inl f))]) [0, 1, 2, 3, 4, 5, 6, 7, 8] (by decide) rfl ?_
  refine j_if_eq (tgt := 14) F d_X_gather_4 (by decide) (fun c_4 => ?_) (fun c_4 => ?_)
  · exact absurd (bI_0 c_4) (by rw [ht]; decide)
  · refine j_iloadn F d_X_gather_7 2 rfl rfl ?_
    refine j_goi (wc := []) (wr := [(x0, .inr (5, [.ref a0, .ref o0, .ref y2, .ref y3, .ref y4, .ref y5, .int now, .int rf])), (a0, .inr (0, [.ref a1, .ref a2, .ref a3, .ref a4, .ref a5, .int (nI n)])), (a1, .inl (cA, 80, .inl (X 0))), (a2, .inl (cA, 80, .inl (X 1))), (a3, .inl (cA, 80, .inl (X 2))), (a4, .inl (cA, 80, .inl (X 3))), (a5, .inl (cA, 80, .inl (X 4))), (o0, .inr (2, [.ref o1, .int z])), (o1, .inl (cA, 80, .inl f))]) hA [] [0, 1, 2, 3, 4, 5, 6, 7, 8] rfl rfl (by decide) (by decide) (fun H locs ls hP hD hl => va_runS (As := [.int k]) (rest := []) F (ct_X_isTime l D cA k H.size) ⟨callB_of 1 F.2.2.2.2 (gd k_169) rfl rfl rfl (F.2.2.2.2 _ (wm k_1)) (F.2.2.2.2 _ (wm k_167)) (by decide +kernel) ⟨by decide, by decide⟩, F.2.2.2.2 _ (wm k_168)⟩ (pre_S hK hN hP hD [] rfl (by decide)) rfl rfl hl.1 rfl (lv_room (Nat.le_of_ble_eq_true rfl)) d_X_gather_8 ⟨by decide, by decide⟩) (fun r8 u8 hw8 => ?_)
    subst hw8
    refine j_ws (ws' := [(x0, .inr (5, [.ref a0, .ref o0, .ref y2, .ref y3, .ref y4, .ref y5, .int now, .int rf])), (a0, .inr (0, [.ref a1, .ref a2, .ref a3, .ref a4, .ref a5, .int (nI n)])), (a1, .inl (cA, 80, .inl (X 0))), (a2, .inl (cA, 80, .inl (X 1))), (a3, .inl (cA, 80, .inl (X 2))), (a4, .inl (cA, 80, .inl (X 3))), (a5, .inl (cA, 80, .inl (X 4))), (o0, .inr (2, [.ref o1, .int z])), (o1, .inl (cA, 80, .inl f))]) [0, 1, 2, 3, 4, 5, 6, 7, 8] (by decide) rfl ?_
    refine j_if_ne (tgt := 24) F d_X_gather_11 (by decide) (fun c_11 => ?_) (fun c_11 => ?_)
    · refine j_aloadn F d_X_gather_24 0 rfl rfl ?_
      refine j_get (ci := 5) (v := .ref o0) F in_X hK 0 rfl rfl 1 (by decide) (wm k_135) rfl d_X_gather_25 ?_
      refine j_aloadn F d_X_gather_28 0 rfl rfl ?_
      refine j_get (ci := 5) (v := .ref a0) F in_X hK 0 rfl rfl 0 (by decide) (wm k_134) rfl d_X_gather_29 ?_
      refine j_iloadn F d_X_gather_32 1 rfl rfl ?_
      refine j_iloadn F d_X_gather_33 2 rfl rfl ?_
      refine j_gov (wc := [(o0, .inr (2, [.ref o1, .int z])), (o1, .inl (cA, 80, .inl f)), (a0, .inr (0, [.ref a1, .ref a2, .ref a3, .ref a4, .ref a5, .int (nI n)])), (a1, .inl (cA, 80, .inl (X 0))), (a2, .inl (cA, 80, .inl (X 1))), (a3, .inl (cA, 80, .inl (X 2))), (a4, .inl (cA, 80, .inl (X 3))), (a5, .inl (cA, 80, .inl (X 4)))]) (wr := [(x0, .inr (5, [.ref a0, .ref o0, .ref y2, .ref y3, .ref y4, .ref y5, .int now, .int rf]))]) hA [7, 8, 1, 2, 3, 4, 5, 6] [0] rfl rfl (by decide) (by decide) (fun H locs ls hP hD hl => va_runVN (As := [.ref a0, .int t, .int k]) (rest := []) F (ct_O_gather l D cA o0 o1 z f a0 a1 a2 a3 a4 a5 X n hA0 t k H.size) ⟨va_cnB 3 F.2.2.2.2 (gd k_295) rfl rfl rfl (hN _ n_292).1 (F.2.2.2.2 _ (wm k_3)) (by decide +kernel) ⟨by decide, by decide⟩, F.2.2.2.2 _ (wm k_294), F.2.2.2.2 _ (wm ks_9)⟩ (pre_V rfl hK hN hP hD [7, 8, 1, 2, 3, 4, 5, 6] rfl (by decide) 7 rfl rfl) rfl rfl hl.1 rfl (lv_room (Nat.le_of_ble_eq_true rfl)) d_X_gather_34 ⟨by decide, by decide⟩) (fun u34 hw34 => ?_)
      refine j_ws (ws' := [(x0, .inr (5, [.ref a0, .ref o0, .ref y2, .ref y3, .ref y4, .ref y5, .int now, .int rf])), (a0, .inr (0, [.ref a1, .ref a2, .ref a3, .ref a4, .ref a5, .int (nI n)])), (a1, .inl (cA, 80, .inl (X 0))), (a2, .inl (cA, 80, .inl (X 1))), (a3, .inl (cA, 80, .inl (X 2))), (a4, .inl (cA, 80, .inl (X 3))), (a5, .inl (cA, 80, .inl (X 4))), (o0, .inr (2, [.ref o1, .int (nI ((ordL X n t k).length))])), (o1, .inl (cA, 80, .inl u34))]) [0, 3, 4, 5, 6, 7, 8, 1, 2] (by decide) rfl ?_
      exact ret _ _ _ _ _ u34 d_X_gather_37 (by decide) (by decide) rfl hw34
    · exact absurd (bI_0 c_11) (by rw [hk]; decide)

def rmx_X_gather : Room := { frames := 6, cells := 1, slots := 6, locals := 92 }
set_option maxHeartbeats 4000000 in
set_option maxRecDepth 100000 in
theorem cx_X_gather (l : Launch) (hst : l.stackTraces = false) (D : va_G) (cA : ClassId) (x0 y2 y3 y4 y5 : Nat) (now rf : Int32) (o0 o1 : Nat) (z : Int32) (f : Nat → Int32) (a0 a1 a2 a3 a4 a5 : Nat) (X : AF) (n : Nat) (hA0 : aok X n) (t k : Int32) (hbad : (win t (nI 0) (nI 10000) && win k (nI 0) (nI 10000)) = false) : Cx (S := Unit) l y_X_gather (Cond.code y_X_gather c_X_gather 3 none :: WD) rmx_X_gather D vwCl [(cA, .int)] nws [.ref x0, .int t, .int k] [(x0, .inr (5, [.ref a0, .ref o0, .ref y2, .ref y3, .ref y4, .ref y5, .int now, .int rf])), (a0, .inr (0, [.ref a1, .ref a2, .ref a3, .ref a4, .ref a5, .int (nI n)])), (a1, .inl (cA, 80, .inl (X 0))), (a2, .inl (cA, 80, .inl (X 1))), (a3, .inl (cA, 80, .inl (X 2))), (a4, .inl (cA, 80, .inl (X 3))), (a5, .inl (cA, 80, .inl (X 4))), (o0, .inr (2, [.ref o1, .int z])), (o1, .inl (cA, 80, .inl f))] 1 6 "java/lang/IllegalArgumentException" (fun _ => True) (fun _ => [(x0, .inr (5, [.ref a0, .ref o0, .ref y2, .ref y3, .ref y4, .ref y5, .int now, .int rf])), (a0, .inr (0, [.ref a1, .ref a2, .ref a3, .ref a4, .ref a5, .int (nI n)])), (a1, .inl (cA, 80, .inl (X 0))), (a2, .inl (cA, 80, .inl (X 1))), (a3, .inl (cA, 80, .inl (X 2))), (a4, .inl (cA, 80, .inl (X 3))), (a5, .inl (cA, 80, .inl (X 4))), (o0, .inr (2, [.ref o1, .int z])), (o1, .inl (cA, 80, .inl f))]) := by
  refine Cx.of (cc := c_X_gather) (nL := 3) (ret := none) (lv := [(0, .ref x0), (1, .int t), (2, .int k)]) hst (by decide) rfl (Nat.le_of_ble_eq_true rfl) rfl ?_
  intro p e s m args below meth cd A Q F hK hN hE hA thr out
  refine j_iloadn F d_X_gather_0 1 rfl rfl ?_
  refine j_goi (wc := []) (wr := [(x0, .inr (5, [.ref a0, .ref o0, .ref y2, .ref y3, .ref y4, .ref y5, .int now, .int rf])), (a0, .inr (0, [.ref a1, .ref a2, .ref a3, .ref a4, .ref a5, .int (nI n)])), (a1, .inl (cA, 80, .inl (X 0))), (a2, .inl (cA, 80, .inl (X 1))), (a3, .inl (cA, 80, .inl (X 2))), (a4, .inl (cA, 80, .inl (X 3))), (a5, .inl (cA, 80, .inl (X 4))), (o0, .inr (2, [.ref o1, .int z])), (o1, .inl (cA, 80, .inl f))]) hA [] [0, 1, 2, 3, 4, 5, 6, 7, 8] rfl rfl (by decide) (by decide) (fun H locs ls hP hD hl => va_runS (As := [.int t]) (rest := []) F (ct_X_isTime l D cA t H.size) ⟨callB_of 1 F.2.2.2.2 (gd k_169) rfl rfl rfl (F.2.2.2.2 _ (wm k_1)) (F.2.2.2.2 _ (wm k_167)) (by decide +kernel) ⟨by decide, by decide⟩, F.2.2.2.2 _ (wm k_168)⟩ (pre_S hK hN hP hD [] rfl (by decide)) rfl rfl hl.1 rfl (lv_room (Nat.le_of_ble_eq_true rfl)) d_X_gather_1 ⟨by decide, by decide⟩) (fun r1 u1 hw1 => ?_)
  subst hw1
  refine j_ws (ws' := [(x0, .inr (5, [.ref a0, .ref o0, .ref y2, .ref y3, .ref y4, .ref y5, .int now, .int rf])), (a0, .inr (0, [.ref a1, .ref a2, .ref a3, .ref a4, .ref a5, .int (nI n)])), (a1, .inl (cA, 80, .inl (X 0))), (a2, .inl (cA, 80, .inl (X 1))), (a3, .inl (cA, 80, .inl (X 2))), (a4, .inl (cA, 80, .inl (X 3))), (a5, .inl (cA, 80, .inl (X 4))), (o0, .inr (2, [.ref o1, .int z])), (o1, .inl (cA, 80, .inl f))]) [0, 1, 2, 3, 4, 5, 6, 7, 8] (by decide) rfl ?_
  refine j_if_eq (tgt := 14) F d_X_gather_4 (by decide) (fun c_4 => ?_) (fun c_4 => ?_)
  · exact thr _ _ _ _ _ _ 152 154 156 "no such time" nmE () d_X_gather_14 d_X_gather_17 d_X_gather_18 d_X_gather_20 d_X_gather_23 (by decide +kernel) (by decide +kernel) (wm k_216) (wm k_11) hE.2.2.2.1 (hatA F.2.2.2.2 hN) gdA (by decide) (Nat.le_of_ble_eq_true rfl) (by decide) (by decide) (by decide) (by decide) rfl trivial
  · have c_4x := c_4
    refine j_iloadn F d_X_gather_7 2 rfl rfl ?_
    refine j_goi (wc := []) (wr := [(x0, .inr (5, [.ref a0, .ref o0, .ref y2, .ref y3, .ref y4, .ref y5, .int now, .int rf])), (a0, .inr (0, [.ref a1, .ref a2, .ref a3, .ref a4, .ref a5, .int (nI n)])), (a1, .inl (cA, 80, .inl (X 0))), (a2, .inl (cA, 80, .inl (X 1))), (a3, .inl (cA, 80, .inl (X 2))), (a4, .inl (cA, 80, .inl (X 3))), (a5, .inl (cA, 80, .inl (X 4))), (o0, .inr (2, [.ref o1, .int z])), (o1, .inl (cA, 80, .inl f))]) hA [] [0, 1, 2, 3, 4, 5, 6, 7, 8] rfl rfl (by decide) (by decide) (fun H locs ls hP hD hl => va_runS (As := [.int k]) (rest := []) F (ct_X_isTime l D cA k H.size) ⟨callB_of 1 F.2.2.2.2 (gd k_169) rfl rfl rfl (F.2.2.2.2 _ (wm k_1)) (F.2.2.2.2 _ (wm k_167)) (by decide +kernel) ⟨by decide, by decide⟩, F.2.2.2.2 _ (wm k_168)⟩ (pre_S hK hN hP hD [] rfl (by decide)) rfl rfl hl.1 rfl (lv_room (Nat.le_of_ble_eq_true rfl)) d_X_gather_8 ⟨by decide, by decide⟩) (fun r8 u8 hw8 => ?_)
    subst hw8
    refine j_ws (ws' := [(x0, .inr (5, [.ref a0, .ref o0, .ref y2, .ref y3, .ref y4, .ref y5, .int now, .int rf])), (a0, .inr (0, [.ref a1, .ref a2, .ref a3, .ref a4, .ref a5, .int (nI n)])), (a1, .inl (cA, 80, .inl (X 0))), (a2, .inl (cA, 80, .inl (X 1))), (a3, .inl (cA, 80, .inl (X 2))), (a4, .inl (cA, 80, .inl (X 3))), (a5, .inl (cA, 80, .inl (X 4))), (o0, .inr (2, [.ref o1, .int z])), (o1, .inl (cA, 80, .inl f))]) [0, 1, 2, 3, 4, 5, 6, 7, 8] (by decide) rfl ?_
    refine j_if_ne (tgt := 24) F d_X_gather_11 (by decide) (fun c_11 => ?_) (fun c_11 => ?_)
    · exact absurd hbad (by rw [bI_1 c_4x, bI_1 c_11]; decide)
    · exact thr _ _ _ _ _ _ 152 154 156 "no such time" nmE () d_X_gather_14 d_X_gather_17 d_X_gather_18 d_X_gather_20 d_X_gather_23 (by decide +kernel) (by decide +kernel) (wm k_216) (wm k_11) hE.2.2.2.1 (hatA F.2.2.2.2 hN) gdA (by decide) (Nat.le_of_ble_eq_true rfl) (by decide) (by decide) (by decide) (by decide) rfl trivial

def rm_X_draw : Room := { frames := 7, cells := 0, slots := 0, locals := 114 }
set_option maxHeartbeats 4000000 in
set_option maxRecDepth 100000 in
theorem ct_X_draw (l : Launch) (D : va_G) (cA : ClassId) (x0 y2 y3 y4 y5 : Nat) (now rf : Int32) (o0 o1 : Nat) (z : Int32) (f : Nat → Int32) (a0 a1 a2 a3 a4 a5 : Nat) (X : AF) (n : Nat) (hA0 : aok X n) (t k : Int32) (p0 p1 p2 p3 : Nat) (sl tt sm : Nat → Int32) (ht : win t (nI 0) (nI 10000) = true) (hk : win k (nI 0) (nI 10000) = true) : Cv (S := (Nat → Int32)) l y_X_draw (Cond.code y_X_draw c_X_draw 4 none :: WD) rm_X_draw D vwCl [(cA, .int)] nws [.ref x0, .ref p0, .int t, .int k] [(x0, .inr (5, [.ref a0, .ref o0, .ref y2, .ref y3, .ref y4, .ref y5, .int now, .int rf])), (a0, .inr (0, [.ref a1, .ref a2, .ref a3, .ref a4, .ref a5, .int (nI n)])), (a1, .inl (cA, 80, .inl (X 0))), (a2, .inl (cA, 80, .inl (X 1))), (a3, .inl (cA, 80, .inl (X 2))), (a4, .inl (cA, 80, .inl (X 3))), (a5, .inl (cA, 80, .inl (X 4))), (o0, .inr (2, [.ref o1, .int z])), (o1, .inl (cA, 80, .inl f)), (p0, .inr (3, [.ref p1, .ref p2, .ref p3])), (p1, .inl (cA, 20, .inl sl)), (p2, .inl (cA, 10, .inl tt)), (p3, .inl (cA, 10, .inl sm))] 0 0 (fun u => rowL u (ordL X n t k)) (fun u => [(x0, .inr (5, [.ref a0, .ref o0, .ref y2, .ref y3, .ref y4, .ref y5, .int now, .int rf])), (a0, .inr (0, [.ref a1, .ref a2, .ref a3, .ref a4, .ref a5, .int (nI n)])), (a1, .inl (cA, 80, .inl (X 0))), (a2, .inl (cA, 80, .inl (X 1))), (a3, .inl (cA, 80, .inl (X 2))), (a4, .inl (cA, 80, .inl (X 3))), (a5, .inl (cA, 80, .inl (X 4))), (o0, .inr (2, [.ref o1, .int (nI ((ordL X n t k).length))])), (o1, .inl (cA, 80, .inl u)), (p0, .inr (3, [.ref p1, .ref p2, .ref p3])), (p1, .inl (cA, 20, .inl (slP X n t k))), (p2, .inl (cA, 10, .inl (ttP X n t k))), (p3, .inl (cA, 10, .inl (smP X n t k)))]) := by
  refine Cv.of (cc := c_X_draw) (nL := 4) (lv := [(0, .ref x0), (1, .ref p0), (2, .int t), (3, .int k)]) (by decide) rfl (Nat.le_of_ble_eq_true rfl) rfl ?_
  intro p e s m args below meth cd A Q F hK hN hA hinit ret
  have h80 := hA0.1
  refine j_aloadn F d_X_draw_0 0 rfl rfl ?_
  refine j_iloadn F d_X_draw_1 2 rfl rfl ?_
  refine j_iloadn F d_X_draw_2 3 rfl rfl ?_
  refine j_gov (wc := [(x0, .inr (5, [.ref a0, .ref o0, .ref y2, .ref y3, .ref y4, .ref y5, .int now, .int rf])), (a0, .inr (0, [.ref a1, .ref a2, .ref a3, .ref a4, .ref a5, .int (nI n)])), (a1, .inl (cA, 80, .inl (X 0))), (a2, .inl (cA, 80, .inl (X 1))), (a3, .inl (cA, 80, .inl (X 2))), (a4, .inl (cA, 80, .inl (X 3))), (a5, .inl (cA, 80, .inl (X 4))), (o0, .inr (2, [.ref o1, .int z])), (o1, .inl (cA, 80, .inl f))]) (wr := [(p0, .inr (3, [.ref p1, .ref p2, .ref p3])), (p1, .inl (cA, 20, .inl sl)), (p2, .inl (cA, 10, .inl tt)), (p3, .inl (cA, 10, .inl sm))]) hA [0, 1, 2, 3, 4, 5, 6, 7, 8] [9, 10, 11, 12] rfl rfl (by decide) (by decide) (fun H locs ls hP hD hl => va_runV (As := [.int t, .int k]) (rest := []) F (ct_X_gather l D cA x0 y2 y3 y4 y5 now rf o0 o1 z f a0 a1 a2 a3 a4 a5 X n hA0 t k ht hk H.size) ⟨callB_of 2 F.2.2.2.2 (gd k_290) rfl rfl rfl (F.2.2.2.2 _ (wm k_1)) (F.2.2.2.2 _ (wm k_287)) (by decide +kernel) ⟨by decide, by decide⟩, F.2.2.2.2 _ (wm k_289), F.2.2.2.2 _ (wm ks_8)⟩ (pre_V rfl hK hN hP hD [0, 1, 2, 3, 4, 5, 6, 7, 8] rfl (by decide) 0 rfl rfl) rfl rfl hl.1 rfl (lv_room (Nat.le_of_ble_eq_true rfl)) d_X_draw_3 ⟨by decide, by decide⟩) (fun u3 hw3 => ?_)
  refine j_ws (ws' := [(x0, .inr (5, [.ref a0, .ref o0, .ref y2, .ref y3, .ref y4, .ref y5, .int now, .int rf])), (a0, .inr (0, [.ref a1, .ref a2, .ref a3, .ref a4, .ref a5, .int (nI n)])), (a1, .inl (cA, 80, .inl (X 0))), (a2, .inl (cA, 80, .inl (X 1))), (a3, .inl (cA, 80, .inl (X 2))), (a4, .inl (cA, 80, .inl (X 3))), (a5, .inl (cA, 80, .inl (X 4))), (o0, .inr (2, [.ref o1, .int (nI ((ordL X n t k).length))])), (o1, .inl (cA, 80, .inl u3)), (p0, .inr (3, [.ref p1, .ref p2, .ref p3])), (p1, .inl (cA, 20, .inl sl)), (p2, .inl (cA, 10, .inl tt)), (p3, .inl (cA, 10, .inl sm))]) [4, 5, 6, 7, 8, 9, 10, 11, 12, 0, 1, 2, 3] (by decide) rfl ?_
  refine j_aloadn F d_X_draw_6 1 rfl rfl ?_
  refine j_aloadn F d_X_draw_7 0 rfl rfl ?_
  refine j_get (ci := 5) (v := .ref a0) F in_X hK 0 rfl rfl 0 (by decide) (wm k_134) rfl d_X_draw_8 ?_
  refine j_aloadn F d_X_draw_11 0 rfl rfl ?_
  refine j_get (ci := 5) (v := .ref o0) F in_X hK 0 rfl rfl 1 (by decide) (wm k_135) rfl d_X_draw_12 ?_
  refine j_gov (wc := [(p0, .inr (3, [.ref p1, .ref p2, .ref p3])), (p1, .inl (cA, 20, .inl sl)), (p2, .inl (cA, 10, .inl tt)), (p3, .inl (cA, 10, .inl sm)), (o0, .inr (2, [.ref o1, .int (nI ((ordL X n t k).length))])), (o1, .inl (cA, 80, .inl u3)), (a0, .inr (0, [.ref a1, .ref a2, .ref a3, .ref a4, .ref a5, .int (nI n)])), (a1, .inl (cA, 80, .inl (X 0))), (a2, .inl (cA, 80, .inl (X 1))), (a3, .inl (cA, 80, .inl (X 2))), (a4, .inl (cA, 80, .inl (X 3))), (a5, .inl (cA, 80, .inl (X 4)))]) (wr := [(x0, .inr (5, [.ref a0, .ref o0, .ref y2, .ref y3, .ref y4, .ref y5, .int now, .int rf]))]) hA [9, 10, 11, 12, 7, 8, 1, 2, 3, 4, 5, 6] [0] rfl rfl (by decide) (by decide) (fun H locs ls hP hD hl => va_runVN (As := [.ref a0, .ref o0]) (rest := []) F (ct_P_draw l D cA p0 p1 p2 p3 sl tt sm o0 o1 u3 (ordL X n t k) a0 a1 a2 a3 a4 a5 X n hA0 hw3 (by have := ordL_len (X := X) (n := n) (t := t) (k := k); omega) ordL_lt H.size) ⟨va_cnB 2 F.2.2.2.2 (gd k_311) rfl rfl rfl (hN _ n_308).1 (F.2.2.2.2 _ (wm k_4)) (by decide +kernel) ⟨by decide, by decide⟩, F.2.2.2.2 _ (wm k_310), F.2.2.2.2 _ (wm ks_13)⟩ (pre_V rfl hK hN hP hD [9, 10, 11, 12, 7, 8, 1, 2, 3, 4, 5, 6] rfl (by decide) 9 rfl rfl) rfl rfl hl.1 rfl (lv_room (Nat.le_of_ble_eq_true rfl)) d_X_draw_15 ⟨by decide, by decide⟩) (fun u15 hw15 => ?_)
  refine j_ws (ws' := [(x0, .inr (5, [.ref a0, .ref o0, .ref y2, .ref y3, .ref y4, .ref y5, .int now, .int rf])), (a0, .inr (0, [.ref a1, .ref a2, .ref a3, .ref a4, .ref a5, .int (nI n)])), (a1, .inl (cA, 80, .inl (X 0))), (a2, .inl (cA, 80, .inl (X 1))), (a3, .inl (cA, 80, .inl (X 2))), (a4, .inl (cA, 80, .inl (X 3))), (a5, .inl (cA, 80, .inl (X 4))), (o0, .inr (2, [.ref o1, .int (nI ((ordL X n t k).length))])), (o1, .inl (cA, 80, .inl u3)), (p0, .inr (3, [.ref p1, .ref p2, .ref p3])), (p1, .inl (cA, 20, .inl (slP X n t k))), (p2, .inl (cA, 10, .inl (ttP X n t k))), (p3, .inl (cA, 10, .inl (smP X n t k)))]) [0, 7, 8, 9, 10, 11, 12, 5, 6, 1, 2, 3, 4] (by decide) rfl ?_
  exact ret _ _ _ _ _ u3 d_X_draw_18 (by decide) (by decide) rfl hw3

def rmx_X_draw : Room := { frames := 7, cells := 1, slots := 6, locals := 114 }
set_option maxHeartbeats 4000000 in
set_option maxRecDepth 100000 in
theorem cx_X_draw (l : Launch) (hst : l.stackTraces = false) (D : va_G) (cA : ClassId) (x0 y2 y3 y4 y5 : Nat) (now rf : Int32) (o0 o1 : Nat) (z : Int32) (f : Nat → Int32) (a0 a1 a2 a3 a4 a5 : Nat) (X : AF) (n : Nat) (hA0 : aok X n) (t k : Int32) (p0 p1 p2 p3 : Nat) (sl tt sm : Nat → Int32) (hbad : (win t (nI 0) (nI 10000) && win k (nI 0) (nI 10000)) = false) : Cx (S := Unit) l y_X_draw (Cond.code y_X_draw c_X_draw 4 none :: WD) rmx_X_draw D vwCl [(cA, .int)] nws [.ref x0, .ref p0, .int t, .int k] [(x0, .inr (5, [.ref a0, .ref o0, .ref y2, .ref y3, .ref y4, .ref y5, .int now, .int rf])), (a0, .inr (0, [.ref a1, .ref a2, .ref a3, .ref a4, .ref a5, .int (nI n)])), (a1, .inl (cA, 80, .inl (X 0))), (a2, .inl (cA, 80, .inl (X 1))), (a3, .inl (cA, 80, .inl (X 2))), (a4, .inl (cA, 80, .inl (X 3))), (a5, .inl (cA, 80, .inl (X 4))), (o0, .inr (2, [.ref o1, .int z])), (o1, .inl (cA, 80, .inl f)), (p0, .inr (3, [.ref p1, .ref p2, .ref p3])), (p1, .inl (cA, 20, .inl sl)), (p2, .inl (cA, 10, .inl tt)), (p3, .inl (cA, 10, .inl sm))] 1 6 "java/lang/IllegalArgumentException" (fun _ => True) (fun _ => [(x0, .inr (5, [.ref a0, .ref o0, .ref y2, .ref y3, .ref y4, .ref y5, .int now, .int rf])), (a0, .inr (0, [.ref a1, .ref a2, .ref a3, .ref a4, .ref a5, .int (nI n)])), (a1, .inl (cA, 80, .inl (X 0))), (a2, .inl (cA, 80, .inl (X 1))), (a3, .inl (cA, 80, .inl (X 2))), (a4, .inl (cA, 80, .inl (X 3))), (a5, .inl (cA, 80, .inl (X 4))), (o0, .inr (2, [.ref o1, .int z])), (o1, .inl (cA, 80, .inl f)), (p0, .inr (3, [.ref p1, .ref p2, .ref p3])), (p1, .inl (cA, 20, .inl sl)), (p2, .inl (cA, 10, .inl tt)), (p3, .inl (cA, 10, .inl sm))]) := by
  refine Cx.of (cc := c_X_draw) (nL := 4) (ret := none) (lv := [(0, .ref x0), (1, .ref p0), (2, .int t), (3, .int k)]) hst (by decide) rfl (Nat.le_of_ble_eq_true rfl) rfl ?_
  intro p e s m args below meth cd A Q F hK hN hE hA thr out
  refine j_aloadn F d_X_draw_0 0 rfl rfl ?_
  refine j_iloadn F d_X_draw_1 2 rfl rfl ?_
  refine j_iloadn F d_X_draw_2 3 rfl rfl ?_
  refine j_goX (a := #[]) (wc := [(x0, .inr (5, [.ref a0, .ref o0, .ref y2, .ref y3, .ref y4, .ref y5, .int now, .int rf])), (a0, .inr (0, [.ref a1, .ref a2, .ref a3, .ref a4, .ref a5, .int (nI n)])), (a1, .inl (cA, 80, .inl (X 0))), (a2, .inl (cA, 80, .inl (X 1))), (a3, .inl (cA, 80, .inl (X 2))), (a4, .inl (cA, 80, .inl (X 3))), (a5, .inl (cA, 80, .inl (X 4))), (o0, .inr (2, [.ref o1, .int z])), (o1, .inl (cA, 80, .inl f))]) (wr := [(p0, .inr (3, [.ref p1, .ref p2, .ref p3])), (p1, .inl (cA, 20, .inl sl)), (p2, .inl (cA, 10, .inl tt)), (p3, .inl (cA, 10, .inl sm))]) hA [0, 1, 2, 3, 4, 5, 6, 7, 8] [9, 10, 11, 12] rfl rfl (by decide) (by decide) (fun H locs ls hP hD hS hl => vx_runV (As := [.int t, .int k]) (rest := []) F (cx_X_gather l hst D cA x0 y2 y3 y4 y5 now rf o0 o1 z f a0 a1 a2 a3 a4 a5 X n hA0 t k hbad H.size) ⟨callB_of 2 F.2.2.2.2 (gd k_290) rfl rfl rfl (F.2.2.2.2 _ (wm k_1)) (F.2.2.2.2 _ (wm k_287)) (by decide +kernel) ⟨by decide, by decide⟩, F.2.2.2.2 _ (wm k_289), F.2.2.2.2 _ (wm ks_8)⟩ (pre_VX rfl hK hN hE hA hP hD hS [0, 1, 2, 3, 4, 5, 6, 7, 8] rfl (by decide) 0 rfl rfl) rfl rfl hl.1 rfl (lv_room (Nat.le_of_ble_eq_true rfl)) d_X_draw_3 ⟨by decide, by decide⟩) (fun u3 hw3 => ?_)
  refine jx_ws (ws' := [(x0, .inr (5, [.ref a0, .ref o0, .ref y2, .ref y3, .ref y4, .ref y5, .int now, .int rf])), (a0, .inr (0, [.ref a1, .ref a2, .ref a3, .ref a4, .ref a5, .int (nI n)])), (a1, .inl (cA, 80, .inl (X 0))), (a2, .inl (cA, 80, .inl (X 1))), (a3, .inl (cA, 80, .inl (X 2))), (a4, .inl (cA, 80, .inl (X 3))), (a5, .inl (cA, 80, .inl (X 4))), (o0, .inr (2, [.ref o1, .int z])), (o1, .inl (cA, 80, .inl f)), (p0, .inr (3, [.ref p1, .ref p2, .ref p3])), (p1, .inl (cA, 20, .inl sl)), (p2, .inl (cA, 10, .inl tt)), (p3, .inl (cA, 10, .inl sm))]) [4, 5, 6, 7, 8, 9, 10, 11, 12, 0, 1, 2, 3] (by decide) rfl ?_
  exact out _ _ _ _ _ () (by decide) (by decide) rfl trivial

def rm_X_event : Room := { frames := 2, cells := 0, slots := 0, locals := 46 }
set_option maxHeartbeats 4000000 in
set_option maxRecDepth 100000 in
theorem ct_X_event_ok (l : Launch) (D : va_G) (cA : ClassId) (x0 y1 y2 y3 y4 y5 : Nat) (now rf : Int32) (a0 a1 a2 a3 a4 a5 : Nat) (X : AF) (n : Nat) (hA0 : aok X n) (kd a b v : Int32) (hok : (decide (80 ≤ n) || (!win v (nI 0) (nI 10000) || !tellB X n kd a b)) = false) : Ci (S := Unit) l y_X_event (Cond.code y_X_event c_X_event 5 (some .int) :: WD) rm_X_event D vwCl [(cA, .int)] nws [.ref x0, .int kd, .int a, .int b, .int v] [(x0, .inr (5, [.ref a0, .ref y1, .ref y2, .ref y3, .ref y4, .ref y5, .int now, .int rf])), (a0, .inr (0, [.ref a1, .ref a2, .ref a3, .ref a4, .ref a5, .int (nI n)])), (a1, .inl (cA, 80, .inl (X 0))), (a2, .inl (cA, 80, .inl (X 1))), (a3, .inl (cA, 80, .inl (X 2))), (a4, .inl (cA, 80, .inl (X 3))), (a5, .inl (cA, 80, .inl (X 4)))] 0 0 (fun r _ => r = nI n) (fun _ => [(x0, .inr (5, [.ref a0, .ref y1, .ref y2, .ref y3, .ref y4, .ref y5, .int now, .int rf])), (a0, .inr (0, [.ref a1, .ref a2, .ref a3, .ref a4, .ref a5, .int (nI (n + 1))])), (a1, .inl (cA, 80, .inl ((apnd X n kd a b v now) 0))), (a2, .inl (cA, 80, .inl ((apnd X n kd a b v now) 1))), (a3, .inl (cA, 80, .inl ((apnd X n kd a b v now) 2))), (a4, .inl (cA, 80, .inl ((apnd X n kd a b v now) 3))), (a5, .inl (cA, 80, .inl ((apnd X n kd a b v now) 4)))]) := by
  refine Ci.of (cc := c_X_event) (nL := 5) (lv := [(0, .ref x0), (1, .int kd), (2, .int a), (3, .int b), (4, .int v)]) (by decide) rfl (Nat.le_of_ble_eq_true rfl) rfl ?_
  intro p e s m args below meth cd A Q F hK hN hA ret
  have h80 := hA0.1
  rw [Bool.or_eq_false_iff, Bool.or_eq_false_iff, Bool.not_eq_false', Bool.not_eq_false'] at hok
  obtain ⟨hok1, hok2, hok3⟩ := hok
  have hn8 : ¬ 80 ≤ n := of_decide_eq_false hok1
  refine j_aloadn F d_X_event_0 0 rfl rfl ?_
  refine j_get (ci := 5) (v := .ref a0) F in_X hK 0 rfl rfl 0 (by decide) (wm k_134) rfl d_X_event_1 ?_
  refine j_goi (wc := [(a0, .inr (0, [.ref a1, .ref a2, .ref a3, .ref a4, .ref a5, .int (nI n)])), (a1, .inl (cA, 80, .inl (X 0))), (a2, .inl (cA, 80, .inl (X 1))), (a3, .inl (cA, 80, .inl (X 2))), (a4, .inl (cA, 80, .inl (X 3))), (a5, .inl (cA, 80, .inl (X 4)))]) (wr := [(x0, .inr (5, [.ref a0, .ref y1, .ref y2, .ref y3, .ref y4, .ref y5, .int now, .int rf]))]) hA [1, 2, 3, 4, 5, 6] [0] rfl rfl (by decide) (by decide) (fun H locs ls hP hD hl => va_runVN (As := []) (rest := []) F (ct_A_isFull l D cA a0 a1 a2 a3 a4 a5 X n (by omega) H.size) ⟨va_cnB 0 F.2.2.2.2 (gd k_166) rfl rfl rfl (hN _ n_163).1 (F.2.2.2.2 _ (wm k_2)) (by decide +kernel) ⟨by decide, by decide⟩, F.2.2.2.2 _ (wm k_165), F.2.2.2.2 _ (wm ks_0)⟩ (pre_V rfl hK hN hP hD [1, 2, 3, 4, 5, 6] rfl (by decide) 1 rfl rfl) rfl rfl hl.1 rfl (lv_room (Nat.le_of_ble_eq_true rfl)) d_X_event_4 ⟨by decide, by decide⟩) (fun r4 u4 hw4 => ?_)
  subst hw4
  refine j_ws (ws' := [(x0, .inr (5, [.ref a0, .ref y1, .ref y2, .ref y3, .ref y4, .ref y5, .int now, .int rf])), (a0, .inr (0, [.ref a1, .ref a2, .ref a3, .ref a4, .ref a5, .int (nI n)])), (a1, .inl (cA, 80, .inl (X 0))), (a2, .inl (cA, 80, .inl (X 1))), (a3, .inl (cA, 80, .inl (X 2))), (a4, .inl (cA, 80, .inl (X 3))), (a5, .inl (cA, 80, .inl (X 4)))]) [0, 1, 2, 3, 4, 5, 6] (by decide) rfl ?_
  refine j_if_ne (tgt := 31) F d_X_event_7 (by decide) (fun c_7 => ?_) (fun c_7 => ?_)
  · exact absurd (bI_1 c_7) (by rw [hok1]; decide)
  · refine j_iload F d_X_event_10 4 rfl ?_
    refine j_goi (wc := []) (wr := [(x0, .inr (5, [.ref a0, .ref y1, .ref y2, .ref y3, .ref y4, .ref y5, .int now, .int rf])), (a0, .inr (0, [.ref a1, .ref a2, .ref a3, .ref a4, .ref a5, .int (nI n)])), (a1, .inl (cA, 80, .inl (X 0))), (a2, .inl (cA, 80, .inl (X 1))), (a3, .inl (cA, 80, .inl (X 2))), (a4, .inl (cA, 80, .inl (X 3))), (a5, .inl (cA, 80, .inl (X 4)))]) hA [] [0, 1, 2, 3, 4, 5, 6] rfl rfl (by decide) (by decide) (fun H locs ls hP hD hl => va_runS (As := [.int v]) (rest := []) F (ct_X_isTime l D cA v H.size) ⟨callB_of 1 F.2.2.2.2 (gd k_169) rfl rfl rfl (F.2.2.2.2 _ (wm k_1)) (F.2.2.2.2 _ (wm k_167)) (by decide +kernel) ⟨by decide, by decide⟩, F.2.2.2.2 _ (wm k_168)⟩ (pre_S hK hN hP hD [] rfl (by decide)) rfl rfl hl.1 rfl (lv_room (Nat.le_of_ble_eq_true rfl)) d_X_event_12 ⟨by decide, by decide⟩) (fun r12 u12 hw12 => ?_)
    subst hw12
    refine j_ws (ws' := [(x0, .inr (5, [.ref a0, .ref y1, .ref y2, .ref y3, .ref y4, .ref y5, .int now, .int rf])), (a0, .inr (0, [.ref a1, .ref a2, .ref a3, .ref a4, .ref a5, .int (nI n)])), (a1, .inl (cA, 80, .inl (X 0))), (a2, .inl (cA, 80, .inl (X 1))), (a3, .inl (cA, 80, .inl (X 2))), (a4, .inl (cA, 80, .inl (X 3))), (a5, .inl (cA, 80, .inl (X 4)))]) [0, 1, 2, 3, 4, 5, 6] (by decide) rfl ?_
    refine j_if_eq (tgt := 31) F d_X_event_15 (by decide) (fun c_15 => ?_) (fun c_15 => ?_)
    · exact absurd (bI_0 c_15) (by rw [hok2]; decide)
    · refine j_aloadn F d_X_event_18 0 rfl rfl ?_
      refine j_get (ci := 5) (v := .ref a0) F in_X hK 0 rfl rfl 0 (by decide) (wm k_134) rfl d_X_event_19 ?_
      refine j_iloadn F d_X_event_22 1 rfl rfl ?_
      refine j_iloadn F d_X_event_23 2 rfl rfl ?_
      refine j_iloadn F d_X_event_24 3 rfl rfl ?_
      refine j_goi (wc := [(a0, .inr (0, [.ref a1, .ref a2, .ref a3, .ref a4, .ref a5, .int (nI n)])), (a1, .inl (cA, 80, .inl (X 0))), (a2, .inl (cA, 80, .inl (X 1))), (a3, .inl (cA, 80, .inl (X 2))), (a4, .inl (cA, 80, .inl (X 3))), (a5, .inl (cA, 80, .inl (X 4)))]) (wr := [(x0, .inr (5, [.ref a0, .ref y1, .ref y2, .ref y3, .ref y4, .ref y5, .int now, .int rf]))]) hA [1, 2, 3, 4, 5, 6] [0] rfl rfl (by decide) (by decide) (fun H locs ls hP hD hl => va_runVN (As := [.int kd, .int a, .int b]) (rest := []) F (ct_A_canTell l D cA a0 a1 a2 a3 a4 a5 X n (by omega) kd a b H.size) ⟨va_cnB 3 F.2.2.2.2 (gd k_176) rfl rfl rfl (hN _ n_173).1 (F.2.2.2.2 _ (wm k_2)) (by decide +kernel) ⟨by decide, by decide⟩, F.2.2.2.2 _ (wm k_175), F.2.2.2.2 _ (wm ks_1)⟩ (pre_V rfl hK hN hP hD [1, 2, 3, 4, 5, 6] rfl (by decide) 1 rfl rfl) rfl rfl hl.1 rfl (lv_room (Nat.le_of_ble_eq_true rfl)) d_X_event_25 ⟨by decide, by decide⟩) (fun r25 u25 hw25 => ?_)
      subst hw25
      refine j_ws (ws' := [(x0, .inr (5, [.ref a0, .ref y1, .ref y2, .ref y3, .ref y4, .ref y5, .int now, .int rf])), (a0, .inr (0, [.ref a1, .ref a2, .ref a3, .ref a4, .ref a5, .int (nI n)])), (a1, .inl (cA, 80, .inl (X 0))), (a2, .inl (cA, 80, .inl (X 1))), (a3, .inl (cA, 80, .inl (X 2))), (a4, .inl (cA, 80, .inl (X 3))), (a5, .inl (cA, 80, .inl (X 4)))]) [0, 1, 2, 3, 4, 5, 6] (by decide) rfl ?_
      refine j_if_ne (tgt := 43) F d_X_event_28 (by decide) (fun c_28 => ?_) (fun c_28 => ?_)
      · refine j_aloadn F d_X_event_43 0 rfl rfl ?_
        refine j_get (ci := 5) (v := .ref a0) F in_X hK 0 rfl rfl 0 (by decide) (wm k_134) rfl d_X_event_44 ?_
        refine j_iloadn F d_X_event_47 1 rfl rfl ?_
        refine j_iloadn F d_X_event_48 2 rfl rfl ?_
        refine j_iloadn F d_X_event_49 3 rfl rfl ?_
        refine j_iload F d_X_event_50 4 rfl ?_
        refine j_aloadn F d_X_event_52 0 rfl rfl ?_
        refine j_get (ci := 5) (v := .int now) F in_X hK 0 rfl rfl 6 (by decide) (wm k_140) rfl d_X_event_53 ?_
        refine j_goi (wc := [(a0, .inr (0, [.ref a1, .ref a2, .ref a3, .ref a4, .ref a5, .int (nI n)])), (a1, .inl (cA, 80, .inl (X 0))), (a2, .inl (cA, 80, .inl (X 1))), (a3, .inl (cA, 80, .inl (X 2))), (a4, .inl (cA, 80, .inl (X 3))), (a5, .inl (cA, 80, .inl (X 4)))]) (wr := [(x0, .inr (5, [.ref a0, .ref y1, .ref y2, .ref y3, .ref y4, .ref y5, .int now, .int rf]))]) hA [1, 2, 3, 4, 5, 6] [0] rfl rfl (by decide) (by decide) (fun H locs ls hP hD hl => va_runVN (As := [.int kd, .int a, .int b, .int v, .int now]) (rest := []) F (ct_A_append l D cA a0 a1 a2 a3 a4 a5 X n (by omega) kd a b v now H.size) ⟨va_cnB 5 F.2.2.2.2 (gd k_187) rfl rfl rfl (hN _ n_184).1 (F.2.2.2.2 _ (wm k_2)) (by decide +kernel) ⟨by decide, by decide⟩, F.2.2.2.2 _ (wm k_186), F.2.2.2.2 _ (wm ks_3)⟩ (pre_V rfl hK hN hP hD [1, 2, 3, 4, 5, 6] rfl (by decide) 1 rfl rfl) rfl rfl hl.1 rfl (lv_room (Nat.le_of_ble_eq_true rfl)) d_X_event_56 ⟨by decide, by decide⟩) (fun r56 u56 hw56 => ?_)
        subst hw56
        refine j_ws (ws' := [(x0, .inr (5, [.ref a0, .ref y1, .ref y2, .ref y3, .ref y4, .ref y5, .int now, .int rf])), (a0, .inr (0, [.ref a1, .ref a2, .ref a3, .ref a4, .ref a5, .int (nI (n + 1))])), (a1, .inl (cA, 80, .inl ((apnd X n kd a b v now) 0))), (a2, .inl (cA, 80, .inl ((apnd X n kd a b v now) 1))), (a3, .inl (cA, 80, .inl ((apnd X n kd a b v now) 2))), (a4, .inl (cA, 80, .inl ((apnd X n kd a b v now) 3))), (a5, .inl (cA, 80, .inl ((apnd X n kd a b v now) 4)))]) [0, 1, 2, 3, 4, 5, 6] (by decide) rfl ?_
        exact ret _ _ _ _ _ _ () d_X_event_59 rfl (by decide) (by decide) rfl rfl
      · exact absurd (bI_0 c_28) (by rw [hok3]; decide)

set_option maxHeartbeats 4000000 in
set_option maxRecDepth 100000 in
theorem ct_X_event_no (l : Launch) (D : va_G) (cA : ClassId) (x0 y1 y2 y3 y4 y5 : Nat) (now rf : Int32) (a0 a1 a2 a3 a4 a5 : Nat) (X : AF) (n : Nat) (hA0 : aok X n) (kd a b v : Int32) (hok : (decide (80 ≤ n) || (!win v (nI 0) (nI 10000) || !tellB X n kd a b)) = true) : Ci (S := Unit) l y_X_event (Cond.code y_X_event c_X_event 5 (some .int) :: WD) rm_X_event D vwCl [(cA, .int)] nws [.ref x0, .int kd, .int a, .int b, .int v] [(x0, .inr (5, [.ref a0, .ref y1, .ref y2, .ref y3, .ref y4, .ref y5, .int now, .int rf])), (a0, .inr (0, [.ref a1, .ref a2, .ref a3, .ref a4, .ref a5, .int (nI n)])), (a1, .inl (cA, 80, .inl (X 0))), (a2, .inl (cA, 80, .inl (X 1))), (a3, .inl (cA, 80, .inl (X 2))), (a4, .inl (cA, 80, .inl (X 3))), (a5, .inl (cA, 80, .inl (X 4)))] 0 0 (fun r _ => r = -1) (fun _ => [(x0, .inr (5, [.ref a0, .ref y1, .ref y2, .ref y3, .ref y4, .ref y5, .int now, .int (rf + nI 1)])), (a0, .inr (0, [.ref a1, .ref a2, .ref a3, .ref a4, .ref a5, .int (nI n)])), (a1, .inl (cA, 80, .inl (X 0))), (a2, .inl (cA, 80, .inl (X 1))), (a3, .inl (cA, 80, .inl (X 2))), (a4, .inl (cA, 80, .inl (X 3))), (a5, .inl (cA, 80, .inl (X 4)))]) := by
  refine Ci.of (cc := c_X_event) (nL := 5) (lv := [(0, .ref x0), (1, .int kd), (2, .int a), (3, .int b), (4, .int v)]) (by decide) rfl (Nat.le_of_ble_eq_true rfl) rfl ?_
  intro p e s m args below meth cd A Q F hK hN hA ret
  have h80 := hA0.1
  refine j_aloadn F d_X_event_0 0 rfl rfl ?_
  refine j_get (ci := 5) (v := .ref a0) F in_X hK 0 rfl rfl 0 (by decide) (wm k_134) rfl d_X_event_1 ?_
  refine j_goi (wc := [(a0, .inr (0, [.ref a1, .ref a2, .ref a3, .ref a4, .ref a5, .int (nI n)])), (a1, .inl (cA, 80, .inl (X 0))), (a2, .inl (cA, 80, .inl (X 1))), (a3, .inl (cA, 80, .inl (X 2))), (a4, .inl (cA, 80, .inl (X 3))), (a5, .inl (cA, 80, .inl (X 4)))]) (wr := [(x0, .inr (5, [.ref a0, .ref y1, .ref y2, .ref y3, .ref y4, .ref y5, .int now, .int rf]))]) hA [1, 2, 3, 4, 5, 6] [0] rfl rfl (by decide) (by decide) (fun H locs ls hP hD hl => va_runVN (As := []) (rest := []) F (ct_A_isFull l D cA a0 a1 a2 a3 a4 a5 X n (by omega) H.size) ⟨va_cnB 0 F.2.2.2.2 (gd k_166) rfl rfl rfl (hN _ n_163).1 (F.2.2.2.2 _ (wm k_2)) (by decide +kernel) ⟨by decide, by decide⟩, F.2.2.2.2 _ (wm k_165), F.2.2.2.2 _ (wm ks_0)⟩ (pre_V rfl hK hN hP hD [1, 2, 3, 4, 5, 6] rfl (by decide) 1 rfl rfl) rfl rfl hl.1 rfl (lv_room (Nat.le_of_ble_eq_true rfl)) d_X_event_4 ⟨by decide, by decide⟩) (fun r4 u4 hw4 => ?_)
  subst hw4
  refine j_ws (ws' := [(x0, .inr (5, [.ref a0, .ref y1, .ref y2, .ref y3, .ref y4, .ref y5, .int now, .int rf])), (a0, .inr (0, [.ref a1, .ref a2, .ref a3, .ref a4, .ref a5, .int (nI n)])), (a1, .inl (cA, 80, .inl (X 0))), (a2, .inl (cA, 80, .inl (X 1))), (a3, .inl (cA, 80, .inl (X 2))), (a4, .inl (cA, 80, .inl (X 3))), (a5, .inl (cA, 80, .inl (X 4)))]) [0, 1, 2, 3, 4, 5, 6] (by decide) rfl ?_
  refine j_if_ne (tgt := 31) F d_X_event_7 (by decide) (fun c_7 => ?_) (fun c_7 => ?_)
  · refine j_aloadn F d_X_event_31 0 rfl rfl ?_
    refine j_dup F d_X_event_32 rfl ?_
    refine j_get (ci := 5) (v := .int rf) F in_X hK 0 rfl rfl 7 (by decide) (wm k_141) rfl d_X_event_33 ?_
    refine j_iconst (v := nI 1) F d_X_event_36 (by decide) ?_
    refine j_iadd (v := rf + (nI 1)) F d_X_event_37 rfl ?_
    refine j_put (ci := 5) (v := .int (rf + (nI 1))) (ty := .int) (ws' := [(x0, .inr (5, [.ref a0, .ref y1, .ref y2, .ref y3, .ref y4, .ref y5, .int now, .int (rf + (nI 1))])), (a0, .inr (0, [.ref a1, .ref a2, .ref a3, .ref a4, .ref a5, .int (nI n)])), (a1, .inl (cA, 80, .inl (X 0))), (a2, .inl (cA, 80, .inl (X 1))), (a3, .inl (cA, 80, .inl (X 2))), (a4, .inl (cA, 80, .inl (X 3))), (a5, .inl (cA, 80, .inl (X 4)))]) F in_X ty_X tk_X nm_X hK 0 rfl rfl 7 (by decide) (wm k_141) rfl (by decide +kernel) rfl rfl (Nat.le_of_ble_eq_true rfl) d_X_event_38 rfl ?_
    refine j_iconst (v := (-1)) F d_X_event_41 (by decide) ?_
    exact ret _ _ _ _ _ _ () d_X_event_42 rfl (by decide) (by decide) rfl rfl
  · have e1 := bI_0 c_7
    refine j_iload F d_X_event_10 4 rfl ?_
    refine j_goi (wc := []) (wr := [(x0, .inr (5, [.ref a0, .ref y1, .ref y2, .ref y3, .ref y4, .ref y5, .int now, .int rf])), (a0, .inr (0, [.ref a1, .ref a2, .ref a3, .ref a4, .ref a5, .int (nI n)])), (a1, .inl (cA, 80, .inl (X 0))), (a2, .inl (cA, 80, .inl (X 1))), (a3, .inl (cA, 80, .inl (X 2))), (a4, .inl (cA, 80, .inl (X 3))), (a5, .inl (cA, 80, .inl (X 4)))]) hA [] [0, 1, 2, 3, 4, 5, 6] rfl rfl (by decide) (by decide) (fun H locs ls hP hD hl => va_runS (As := [.int v]) (rest := []) F (ct_X_isTime l D cA v H.size) ⟨callB_of 1 F.2.2.2.2 (gd k_169) rfl rfl rfl (F.2.2.2.2 _ (wm k_1)) (F.2.2.2.2 _ (wm k_167)) (by decide +kernel) ⟨by decide, by decide⟩, F.2.2.2.2 _ (wm k_168)⟩ (pre_S hK hN hP hD [] rfl (by decide)) rfl rfl hl.1 rfl (lv_room (Nat.le_of_ble_eq_true rfl)) d_X_event_12 ⟨by decide, by decide⟩) (fun r12 u12 hw12 => ?_)
    subst hw12
    refine j_ws (ws' := [(x0, .inr (5, [.ref a0, .ref y1, .ref y2, .ref y3, .ref y4, .ref y5, .int now, .int rf])), (a0, .inr (0, [.ref a1, .ref a2, .ref a3, .ref a4, .ref a5, .int (nI n)])), (a1, .inl (cA, 80, .inl (X 0))), (a2, .inl (cA, 80, .inl (X 1))), (a3, .inl (cA, 80, .inl (X 2))), (a4, .inl (cA, 80, .inl (X 3))), (a5, .inl (cA, 80, .inl (X 4)))]) [0, 1, 2, 3, 4, 5, 6] (by decide) rfl ?_
    refine j_if_eq (tgt := 31) F d_X_event_15 (by decide) (fun c_15 => ?_) (fun c_15 => ?_)
    · refine j_aloadn F d_X_event_31 0 rfl rfl ?_
      refine j_dup F d_X_event_32 rfl ?_
      refine j_get (ci := 5) (v := .int rf) F in_X hK 0 rfl rfl 7 (by decide) (wm k_141) rfl d_X_event_33 ?_
      refine j_iconst (v := nI 1) F d_X_event_36 (by decide) ?_
      refine j_iadd (v := rf + (nI 1)) F d_X_event_37 rfl ?_
      refine j_put (ci := 5) (v := .int (rf + (nI 1))) (ty := .int) (ws' := [(x0, .inr (5, [.ref a0, .ref y1, .ref y2, .ref y3, .ref y4, .ref y5, .int now, .int (rf + (nI 1))])), (a0, .inr (0, [.ref a1, .ref a2, .ref a3, .ref a4, .ref a5, .int (nI n)])), (a1, .inl (cA, 80, .inl (X 0))), (a2, .inl (cA, 80, .inl (X 1))), (a3, .inl (cA, 80, .inl (X 2))), (a4, .inl (cA, 80, .inl (X 3))), (a5, .inl (cA, 80, .inl (X 4)))]) F in_X ty_X tk_X nm_X hK 0 rfl rfl 7 (by decide) (wm k_141) rfl (by decide +kernel) rfl rfl (Nat.le_of_ble_eq_true rfl) d_X_event_38 rfl ?_
      refine j_iconst (v := (-1)) F d_X_event_41 (by decide) ?_
      exact ret _ _ _ _ _ _ () d_X_event_42 rfl (by decide) (by decide) rfl rfl
    · have e2 := bI_1 c_15
      refine j_aloadn F d_X_event_18 0 rfl rfl ?_
      refine j_get (ci := 5) (v := .ref a0) F in_X hK 0 rfl rfl 0 (by decide) (wm k_134) rfl d_X_event_19 ?_
      refine j_iloadn F d_X_event_22 1 rfl rfl ?_
      refine j_iloadn F d_X_event_23 2 rfl rfl ?_
      refine j_iloadn F d_X_event_24 3 rfl rfl ?_
      refine j_goi (wc := [(a0, .inr (0, [.ref a1, .ref a2, .ref a3, .ref a4, .ref a5, .int (nI n)])), (a1, .inl (cA, 80, .inl (X 0))), (a2, .inl (cA, 80, .inl (X 1))), (a3, .inl (cA, 80, .inl (X 2))), (a4, .inl (cA, 80, .inl (X 3))), (a5, .inl (cA, 80, .inl (X 4)))]) (wr := [(x0, .inr (5, [.ref a0, .ref y1, .ref y2, .ref y3, .ref y4, .ref y5, .int now, .int rf]))]) hA [1, 2, 3, 4, 5, 6] [0] rfl rfl (by decide) (by decide) (fun H locs ls hP hD hl => va_runVN (As := [.int kd, .int a, .int b]) (rest := []) F (ct_A_canTell l D cA a0 a1 a2 a3 a4 a5 X n (by omega) kd a b H.size) ⟨va_cnB 3 F.2.2.2.2 (gd k_176) rfl rfl rfl (hN _ n_173).1 (F.2.2.2.2 _ (wm k_2)) (by decide +kernel) ⟨by decide, by decide⟩, F.2.2.2.2 _ (wm k_175), F.2.2.2.2 _ (wm ks_1)⟩ (pre_V rfl hK hN hP hD [1, 2, 3, 4, 5, 6] rfl (by decide) 1 rfl rfl) rfl rfl hl.1 rfl (lv_room (Nat.le_of_ble_eq_true rfl)) d_X_event_25 ⟨by decide, by decide⟩) (fun r25 u25 hw25 => ?_)
      subst hw25
      refine j_ws (ws' := [(x0, .inr (5, [.ref a0, .ref y1, .ref y2, .ref y3, .ref y4, .ref y5, .int now, .int rf])), (a0, .inr (0, [.ref a1, .ref a2, .ref a3, .ref a4, .ref a5, .int (nI n)])), (a1, .inl (cA, 80, .inl (X 0))), (a2, .inl (cA, 80, .inl (X 1))), (a3, .inl (cA, 80, .inl (X 2))), (a4, .inl (cA, 80, .inl (X 3))), (a5, .inl (cA, 80, .inl (X 4)))]) [0, 1, 2, 3, 4, 5, 6] (by decide) rfl ?_
      refine j_if_ne (tgt := 43) F d_X_event_28 (by decide) (fun c_28 => ?_) (fun c_28 => ?_)
      · exact absurd hok (by rw [e1, e2, bI_1 c_28]; decide)
      · refine j_aloadn F d_X_event_31 0 rfl rfl ?_
        refine j_dup F d_X_event_32 rfl ?_
        refine j_get (ci := 5) (v := .int rf) F in_X hK 0 rfl rfl 7 (by decide) (wm k_141) rfl d_X_event_33 ?_
        refine j_iconst (v := nI 1) F d_X_event_36 (by decide) ?_
        refine j_iadd (v := rf + (nI 1)) F d_X_event_37 rfl ?_
        refine j_put (ci := 5) (v := .int (rf + (nI 1))) (ty := .int) (ws' := [(x0, .inr (5, [.ref a0, .ref y1, .ref y2, .ref y3, .ref y4, .ref y5, .int now, .int (rf + (nI 1))])), (a0, .inr (0, [.ref a1, .ref a2, .ref a3, .ref a4, .ref a5, .int (nI n)])), (a1, .inl (cA, 80, .inl (X 0))), (a2, .inl (cA, 80, .inl (X 1))), (a3, .inl (cA, 80, .inl (X 2))), (a4, .inl (cA, 80, .inl (X 3))), (a5, .inl (cA, 80, .inl (X 4)))]) F in_X ty_X tk_X nm_X hK 0 rfl rfl 7 (by decide) (wm k_141) rfl (by decide +kernel) rfl rfl (Nat.le_of_ble_eq_true rfl) d_X_event_38 rfl ?_
        refine j_iconst (v := (-1)) F d_X_event_41 (by decide) ?_
        exact ret _ _ _ _ _ _ () d_X_event_42 rfl (by decide) (by decide) rfl rfl

def rm_X_known : Room := { frames := 2, cells := 0, slots := 0, locals := 42 }
set_option maxHeartbeats 4000000 in
set_option maxRecDepth 100000 in
theorem ct_X_known_ok (l : Launch) (D : va_G) (cA : ClassId) (x0 y1 y2 y3 y4 y5 : Nat) (now rf : Int32) (a0 a1 a2 a3 a4 a5 : Nat) (X : AF) (n : Nat) (hA0 : aok X n) (t : Int32) (hok : (win t (nI 0) (nI 10000) && decide (now ≤ t)) = true) : Ci (S := Unit) l y_X_known (Cond.code y_X_known c_X_known 2 (some .boolean) :: WD) rm_X_known D vwCl [(cA, .int)] nws [.ref x0, .int t] [(x0, .inr (5, [.ref a0, .ref y1, .ref y2, .ref y3, .ref y4, .ref y5, .int now, .int rf])), (a0, .inr (0, [.ref a1, .ref a2, .ref a3, .ref a4, .ref a5, .int (nI n)])), (a1, .inl (cA, 80, .inl (X 0))), (a2, .inl (cA, 80, .inl (X 1))), (a3, .inl (cA, 80, .inl (X 2))), (a4, .inl (cA, 80, .inl (X 3))), (a5, .inl (cA, 80, .inl (X 4)))] 0 0 (fun r _ => r = bI true) (fun _ => [(x0, .inr (5, [.ref a0, .ref y1, .ref y2, .ref y3, .ref y4, .ref y5, .int t, .int rf])), (a0, .inr (0, [.ref a1, .ref a2, .ref a3, .ref a4, .ref a5, .int (nI n)])), (a1, .inl (cA, 80, .inl (X 0))), (a2, .inl (cA, 80, .inl (X 1))), (a3, .inl (cA, 80, .inl (X 2))), (a4, .inl (cA, 80, .inl (X 3))), (a5, .inl (cA, 80, .inl (X 4)))]) := by
  refine Ci.of (cc := c_X_known) (nL := 2) (lv := [(0, .ref x0), (1, .int t)]) (by decide) rfl (Nat.le_of_ble_eq_true rfl) rfl ?_
  intro p e s m args below meth cd A Q F hK hN hA ret
  rw [Bool.and_eq_true] at hok
  refine j_iloadn F d_X_known_0 1 rfl rfl ?_
  refine j_goi (wc := []) (wr := [(x0, .inr (5, [.ref a0, .ref y1, .ref y2, .ref y3, .ref y4, .ref y5, .int now, .int rf])), (a0, .inr (0, [.ref a1, .ref a2, .ref a3, .ref a4, .ref a5, .int (nI n)])), (a1, .inl (cA, 80, .inl (X 0))), (a2, .inl (cA, 80, .inl (X 1))), (a3, .inl (cA, 80, .inl (X 2))), (a4, .inl (cA, 80, .inl (X 3))), (a5, .inl (cA, 80, .inl (X 4)))]) hA [] [0, 1, 2, 3, 4, 5, 6] rfl rfl (by decide) (by decide) (fun H locs ls hP hD hl => va_runS (As := [.int t]) (rest := []) F (ct_X_isTime l D cA t H.size) ⟨callB_of 1 F.2.2.2.2 (gd k_169) rfl rfl rfl (F.2.2.2.2 _ (wm k_1)) (F.2.2.2.2 _ (wm k_167)) (by decide +kernel) ⟨by decide, by decide⟩, F.2.2.2.2 _ (wm k_168)⟩ (pre_S hK hN hP hD [] rfl (by decide)) rfl rfl hl.1 rfl (lv_room (Nat.le_of_ble_eq_true rfl)) d_X_known_1 ⟨by decide, by decide⟩) (fun r1 u1 hw1 => ?_)
  subst hw1
  refine j_ws (ws' := [(x0, .inr (5, [.ref a0, .ref y1, .ref y2, .ref y3, .ref y4, .ref y5, .int now, .int rf])), (a0, .inr (0, [.ref a1, .ref a2, .ref a3, .ref a4, .ref a5, .int (nI n)])), (a1, .inl (cA, 80, .inl (X 0))), (a2, .inl (cA, 80, .inl (X 1))), (a3, .inl (cA, 80, .inl (X 2))), (a4, .inl (cA, 80, .inl (X 3))), (a5, .inl (cA, 80, .inl (X 4)))]) [0, 1, 2, 3, 4, 5, 6] (by decide) rfl ?_
  refine j_if_eq (tgt := 15) F d_X_known_4 (by decide) (fun c_4 => ?_) (fun c_4 => ?_)
  · exact absurd (bI_0 c_4) (by rw [hok.1]; decide)
  · refine j_iloadn F d_X_known_7 1 rfl rfl ?_
    refine j_aloadn F d_X_known_8 0 rfl rfl ?_
    refine j_get (ci := 5) (v := .int now) F in_X hK 0 rfl rfl 6 (by decide) (wm k_140) rfl d_X_known_9 ?_
    refine j_ic_ge (tgt := 27) F d_X_known_12 (by decide) (fun c_12 => ?_) (fun c_12 => ?_)
    · refine j_aloadn F d_X_known_27 0 rfl rfl ?_
      refine j_iloadn F d_X_known_28 1 rfl rfl ?_
      refine j_put (ci := 5) (v := .int t) (ty := .int) (ws' := [(x0, .inr (5, [.ref a0, .ref y1, .ref y2, .ref y3, .ref y4, .ref y5, .int t, .int rf])), (a0, .inr (0, [.ref a1, .ref a2, .ref a3, .ref a4, .ref a5, .int (nI n)])), (a1, .inl (cA, 80, .inl (X 0))), (a2, .inl (cA, 80, .inl (X 1))), (a3, .inl (cA, 80, .inl (X 2))), (a4, .inl (cA, 80, .inl (X 3))), (a5, .inl (cA, 80, .inl (X 4)))]) F in_X ty_X tk_X nm_X hK 0 rfl rfl 6 (by decide) (wm k_140) rfl (by decide +kernel) rfl rfl (Nat.le_of_ble_eq_true rfl) d_X_known_29 rfl ?_
      refine j_iconst (v := nI 1) F d_X_known_32 (by decide) ?_
      exact ret _ _ _ _ _ _ () d_X_known_33 rfl (by decide) (by decide) rfl rfl
    · exact absurd (of_decide_eq_true hok.2) c_12

set_option maxHeartbeats 4000000 in
set_option maxRecDepth 100000 in
theorem ct_X_known_no (l : Launch) (D : va_G) (cA : ClassId) (x0 y1 y2 y3 y4 y5 : Nat) (now rf : Int32) (a0 a1 a2 a3 a4 a5 : Nat) (X : AF) (n : Nat) (hA0 : aok X n) (t : Int32) (hok : (win t (nI 0) (nI 10000) && decide (now ≤ t)) = false) : Ci (S := Unit) l y_X_known (Cond.code y_X_known c_X_known 2 (some .boolean) :: WD) rm_X_known D vwCl [(cA, .int)] nws [.ref x0, .int t] [(x0, .inr (5, [.ref a0, .ref y1, .ref y2, .ref y3, .ref y4, .ref y5, .int now, .int rf])), (a0, .inr (0, [.ref a1, .ref a2, .ref a3, .ref a4, .ref a5, .int (nI n)])), (a1, .inl (cA, 80, .inl (X 0))), (a2, .inl (cA, 80, .inl (X 1))), (a3, .inl (cA, 80, .inl (X 2))), (a4, .inl (cA, 80, .inl (X 3))), (a5, .inl (cA, 80, .inl (X 4)))] 0 0 (fun r _ => r = bI false) (fun _ => [(x0, .inr (5, [.ref a0, .ref y1, .ref y2, .ref y3, .ref y4, .ref y5, .int now, .int (rf + nI 1)])), (a0, .inr (0, [.ref a1, .ref a2, .ref a3, .ref a4, .ref a5, .int (nI n)])), (a1, .inl (cA, 80, .inl (X 0))), (a2, .inl (cA, 80, .inl (X 1))), (a3, .inl (cA, 80, .inl (X 2))), (a4, .inl (cA, 80, .inl (X 3))), (a5, .inl (cA, 80, .inl (X 4)))]) := by
  refine Ci.of (cc := c_X_known) (nL := 2) (lv := [(0, .ref x0), (1, .int t)]) (by decide) rfl (Nat.le_of_ble_eq_true rfl) rfl ?_
  intro p e s m args below meth cd A Q F hK hN hA ret
  refine j_iloadn F d_X_known_0 1 rfl rfl ?_
  refine j_goi (wc := []) (wr := [(x0, .inr (5, [.ref a0, .ref y1, .ref y2, .ref y3, .ref y4, .ref y5, .int now, .int rf])), (a0, .inr (0, [.ref a1, .ref a2, .ref a3, .ref a4, .ref a5, .int (nI n)])), (a1, .inl (cA, 80, .inl (X 0))), (a2, .inl (cA, 80, .inl (X 1))), (a3, .inl (cA, 80, .inl (X 2))), (a4, .inl (cA, 80, .inl (X 3))), (a5, .inl (cA, 80, .inl (X 4)))]) hA [] [0, 1, 2, 3, 4, 5, 6] rfl rfl (by decide) (by decide) (fun H locs ls hP hD hl => va_runS (As := [.int t]) (rest := []) F (ct_X_isTime l D cA t H.size) ⟨callB_of 1 F.2.2.2.2 (gd k_169) rfl rfl rfl (F.2.2.2.2 _ (wm k_1)) (F.2.2.2.2 _ (wm k_167)) (by decide +kernel) ⟨by decide, by decide⟩, F.2.2.2.2 _ (wm k_168)⟩ (pre_S hK hN hP hD [] rfl (by decide)) rfl rfl hl.1 rfl (lv_room (Nat.le_of_ble_eq_true rfl)) d_X_known_1 ⟨by decide, by decide⟩) (fun r1 u1 hw1 => ?_)
  subst hw1
  refine j_ws (ws' := [(x0, .inr (5, [.ref a0, .ref y1, .ref y2, .ref y3, .ref y4, .ref y5, .int now, .int rf])), (a0, .inr (0, [.ref a1, .ref a2, .ref a3, .ref a4, .ref a5, .int (nI n)])), (a1, .inl (cA, 80, .inl (X 0))), (a2, .inl (cA, 80, .inl (X 1))), (a3, .inl (cA, 80, .inl (X 2))), (a4, .inl (cA, 80, .inl (X 3))), (a5, .inl (cA, 80, .inl (X 4)))]) [0, 1, 2, 3, 4, 5, 6] (by decide) rfl ?_
  refine j_if_eq (tgt := 15) F d_X_known_4 (by decide) (fun c_4 => ?_) (fun c_4 => ?_)
  · refine j_aloadn F d_X_known_15 0 rfl rfl ?_
    refine j_dup F d_X_known_16 rfl ?_
    refine j_get (ci := 5) (v := .int rf) F in_X hK 0 rfl rfl 7 (by decide) (wm k_141) rfl d_X_known_17 ?_
    refine j_iconst (v := nI 1) F d_X_known_20 (by decide) ?_
    refine j_iadd (v := rf + (nI 1)) F d_X_known_21 rfl ?_
    refine j_put (ci := 5) (v := .int (rf + (nI 1))) (ty := .int) (ws' := [(x0, .inr (5, [.ref a0, .ref y1, .ref y2, .ref y3, .ref y4, .ref y5, .int now, .int (rf + (nI 1))])), (a0, .inr (0, [.ref a1, .ref a2, .ref a3, .ref a4, .ref a5, .int (nI n)])), (a1, .inl (cA, 80, .inl (X 0))), (a2, .inl (cA, 80, .inl (X 1))), (a3, .inl (cA, 80, .inl (X 2))), (a4, .inl (cA, 80, .inl (X 3))), (a5, .inl (cA, 80, .inl (X 4)))]) F in_X ty_X tk_X nm_X hK 0 rfl rfl 7 (by decide) (wm k_141) rfl (by decide +kernel) rfl rfl (Nat.le_of_ble_eq_true rfl) d_X_known_22 rfl ?_
    refine j_iconst (v := nI 0) F d_X_known_25 (by decide) ?_
    exact ret _ _ _ _ _ _ () d_X_known_26 rfl (by decide) (by decide) rfl rfl
  · have e1 := bI_1 c_4
    refine j_iloadn F d_X_known_7 1 rfl rfl ?_
    refine j_aloadn F d_X_known_8 0 rfl rfl ?_
    refine j_get (ci := 5) (v := .int now) F in_X hK 0 rfl rfl 6 (by decide) (wm k_140) rfl d_X_known_9 ?_
    refine j_ic_ge (tgt := 27) F d_X_known_12 (by decide) (fun c_12 => ?_) (fun c_12 => ?_)
    · exact absurd hok (by rw [e1, decide_eq_true c_12]; decide)
    · refine j_aloadn F d_X_known_15 0 rfl rfl ?_
      refine j_dup F d_X_known_16 rfl ?_
      refine j_get (ci := 5) (v := .int rf) F in_X hK 0 rfl rfl 7 (by decide) (wm k_141) rfl d_X_known_17 ?_
      refine j_iconst (v := nI 1) F d_X_known_20 (by decide) ?_
      refine j_iadd (v := rf + (nI 1)) F d_X_known_21 rfl ?_
      refine j_put (ci := 5) (v := .int (rf + (nI 1))) (ty := .int) (ws' := [(x0, .inr (5, [.ref a0, .ref y1, .ref y2, .ref y3, .ref y4, .ref y5, .int now, .int (rf + (nI 1))])), (a0, .inr (0, [.ref a1, .ref a2, .ref a3, .ref a4, .ref a5, .int (nI n)])), (a1, .inl (cA, 80, .inl (X 0))), (a2, .inl (cA, 80, .inl (X 1))), (a3, .inl (cA, 80, .inl (X 2))), (a4, .inl (cA, 80, .inl (X 3))), (a5, .inl (cA, 80, .inl (X 4)))]) F in_X ty_X tk_X nm_X hK 0 rfl rfl 7 (by decide) (wm k_141) rfl (by decide +kernel) rfl rfl (Nat.le_of_ble_eq_true rfl) d_X_known_22 rfl ?_
      refine j_iconst (v := nI 0) F d_X_known_25 (by decide) ?_
      exact ret _ _ _ _ _ _ () d_X_known_26 rfl (by decide) (by decide) rfl rfl

def rm_X_count : Room := { frames := 2, cells := 0, slots := 0, locals := 46 }
set_option maxHeartbeats 4000000 in
set_option maxRecDepth 100000 in
theorem ct_X_count (l : Launch) (D : va_G) (cA : ClassId) (x0 y1 y2 y3 y4 y5 : Nat) (now rf : Int32) (a0 a1 a2 a3 a4 a5 : Nat) (X : AF) (n : Nat) (hA0 : aok X n) (w : Int32) : Ci (S := Unit) l y_X_count (Cond.code y_X_count c_X_count 2 (some .int) :: WD) rm_X_count D vwCl [(cA, .int)] nws [.ref x0, .int w] [(x0, .inr (5, [.ref a0, .ref y1, .ref y2, .ref y3, .ref y4, .ref y5, .int now, .int rf])), (a0, .inr (0, [.ref a1, .ref a2, .ref a3, .ref a4, .ref a5, .int (nI n)])), (a1, .inl (cA, 80, .inl (X 0))), (a2, .inl (cA, 80, .inl (X 1))), (a3, .inl (cA, 80, .inl (X 2))), (a4, .inl (cA, 80, .inl (X 3))), (a5, .inl (cA, 80, .inl (X 4)))] 0 0 (fun r _ => r = cntP X n now rf w) (fun _ => [(x0, .inr (5, [.ref a0, .ref y1, .ref y2, .ref y3, .ref y4, .ref y5, .int now, .int rf])), (a0, .inr (0, [.ref a1, .ref a2, .ref a3, .ref a4, .ref a5, .int (nI n)])), (a1, .inl (cA, 80, .inl (X 0))), (a2, .inl (cA, 80, .inl (X 1))), (a3, .inl (cA, 80, .inl (X 2))), (a4, .inl (cA, 80, .inl (X 3))), (a5, .inl (cA, 80, .inl (X 4)))]) := by
  refine Ci.of (cc := c_X_count) (nL := 2) (lv := [(0, .ref x0), (1, .int w)]) (by decide) rfl (Nat.le_of_ble_eq_true rfl) rfl ?_
  intro p e s m args below meth cd A Q F hK hN hA ret
  refine j_iloadn F d_X_count_0 1 rfl rfl ?_
  have sw := jn_sw3 w
  rcases sw with hz | hz | hz | hz | hz
  · refine j_tabIn (tgt := 32) F d_X_count_1 0 hz.1 (by decide) (by decide) rfl (by decide) ?_
    refine j_aloadn F d_X_count_32 0 rfl rfl ?_
    refine j_get (ci := 5) (v := .ref a0) F in_X hK 0 rfl rfl 0 (by decide) (wm k_134) rfl d_X_count_33 ?_
    refine j_getN (ci := 0) (v := .int (nI n)) F in_A hK hN 1 rfl rfl 5 (by decide) n_49 rfl d_X_count_36 ?_
    exact ret _ _ _ _ _ _ () d_X_count_39 rfl (by decide) (by decide) rfl (by unfold cntP; rw [if_pos hz.2])
  · refine j_tabIn (tgt := 40) F d_X_count_1 1 hz.1 (by decide) (by decide) rfl (by decide) ?_
    refine j_aloadn F d_X_count_40 0 rfl rfl ?_
    refine j_get (ci := 5) (v := .int now) F in_X hK 0 rfl rfl 6 (by decide) (wm k_140) rfl d_X_count_41 ?_
    exact ret _ _ _ _ _ _ () d_X_count_44 rfl (by decide) (by decide) rfl (by unfold cntP; rw [if_neg (kne hz.2 (by decide) (by decide) (by decide)), if_pos hz.2])
  · refine j_tabIn (tgt := 45) F d_X_count_1 2 hz.1 (by decide) (by decide) rfl (by decide) ?_
    refine j_aloadn F d_X_count_45 0 rfl rfl ?_
    refine j_get (ci := 5) (v := .int rf) F in_X hK 0 rfl rfl 7 (by decide) (wm k_141) rfl d_X_count_46 ?_
    exact ret _ _ _ _ _ _ () d_X_count_49 rfl (by decide) (by decide) rfl (by unfold cntP; rw [if_neg (kne hz.2 (by decide) (by decide) (by decide)), if_neg (kne hz.2 (by decide) (by decide) (by decide)), if_pos hz.2])
  · refine j_tabIn (tgt := 50) F d_X_count_1 3 hz.1 (by decide) (by decide) rfl (by decide) ?_
    refine j_aloadn F d_X_count_50 0 rfl rfl ?_
    refine j_get (ci := 5) (v := .ref a0) F in_X hK 0 rfl rfl 0 (by decide) (wm k_134) rfl d_X_count_51 ?_
    refine j_aloadn F d_X_count_54 0 rfl rfl ?_
    refine j_get (ci := 5) (v := .int now) F in_X hK 0 rfl rfl 6 (by decide) (wm k_140) rfl d_X_count_55 ?_
    refine j_goi (wc := [(a0, .inr (0, [.ref a1, .ref a2, .ref a3, .ref a4, .ref a5, .int (nI n)])), (a1, .inl (cA, 80, .inl (X 0))), (a2, .inl (cA, 80, .inl (X 1))), (a3, .inl (cA, 80, .inl (X 2))), (a4, .inl (cA, 80, .inl (X 3))), (a5, .inl (cA, 80, .inl (X 4)))]) (wr := [(x0, .inr (5, [.ref a0, .ref y1, .ref y2, .ref y3, .ref y4, .ref y5, .int now, .int rf]))]) hA [1, 2, 3, 4, 5, 6] [0] rfl rfl (by decide) (by decide) (fun H locs ls hP hD hl => va_runVN (As := [.int now]) (rest := []) F (ct_A_voidsAsKnown l D cA a0 a1 a2 a3 a4 a5 X n hA0 now H.size) ⟨va_cnB 1 F.2.2.2.2 (gd k_200) rfl rfl rfl (hN _ n_197).1 (F.2.2.2.2 _ (wm k_2)) (by decide +kernel) ⟨by decide, by decide⟩, F.2.2.2.2 _ (wm k_199), F.2.2.2.2 _ (wm ks_4)⟩ (pre_V rfl hK hN hP hD [1, 2, 3, 4, 5, 6] rfl (by decide) 1 rfl rfl) rfl rfl hl.1 rfl (lv_room (Nat.le_of_ble_eq_true rfl)) d_X_count_58 ⟨by decide, by decide⟩) (fun r58 u58 hw58 => ?_)
    subst hw58
    refine j_ws (ws' := [(x0, .inr (5, [.ref a0, .ref y1, .ref y2, .ref y3, .ref y4, .ref y5, .int now, .int rf])), (a0, .inr (0, [.ref a1, .ref a2, .ref a3, .ref a4, .ref a5, .int (nI n)])), (a1, .inl (cA, 80, .inl (X 0))), (a2, .inl (cA, 80, .inl (X 1))), (a3, .inl (cA, 80, .inl (X 2))), (a4, .inl (cA, 80, .inl (X 3))), (a5, .inl (cA, 80, .inl (X 4)))]) [0, 1, 2, 3, 4, 5, 6] (by decide) rfl ?_
    exact ret _ _ _ _ _ _ () d_X_count_61 rfl (by decide) (by decide) rfl (by unfold cntP; rw [if_neg (kne hz.2 (by decide) (by decide) (by decide)), if_neg (kne hz.2 (by decide) (by decide) (by decide)), if_neg (kne hz.2 (by decide) (by decide) (by decide)), if_pos hz.2])
  · refine j_tabOut (tgt := 62) F d_X_count_1 hz.1 (by decide) ?_
    refine j_iconst (v := (-1)) F d_X_count_62 (by decide) ?_
    exact ret _ _ _ _ _ _ () d_X_count_63 rfl (by decide) (by decide) rfl (by unfold cntP; rw [if_neg (hz.2 0 (by decide)), if_neg (hz.2 1 (by decide)), if_neg (hz.2 2 (by decide)), if_neg (hz.2 3 (by decide))])

def rm_X_look : Room := { frames := 6, cells := 0, slots := 0, locals := 92 }
set_option maxHeartbeats 4000000 in
set_option maxRecDepth 100000 in
theorem ct_X_look (l : Launch) (D : va_G) (cA : ClassId) (x0 y1 y2 y3 y4 y5 : Nat) (now rf : Int32) (a0 a1 a2 a3 a4 a5 : Nat) (X : AF) (n : Nat) (hA0 : aok X n) (e0 : Nat) (he0 : e0 < n) (w : Int32) (hw : win w (nI 0) (nI 5) = true) : Ci (S := Unit) l y_X_look (Cond.code y_X_look c_X_look 3 (some .int) :: WD) rm_X_look D vwCl [(cA, .int)] nws [.ref x0, .int (nI e0), .int w] [(x0, .inr (5, [.ref a0, .ref y1, .ref y2, .ref y3, .ref y4, .ref y5, .int now, .int rf])), (a0, .inr (0, [.ref a1, .ref a2, .ref a3, .ref a4, .ref a5, .int (nI n)])), (a1, .inl (cA, 80, .inl (X 0))), (a2, .inl (cA, 80, .inl (X 1))), (a3, .inl (cA, 80, .inl (X 2))), (a4, .inl (cA, 80, .inl (X 3))), (a5, .inl (cA, 80, .inl (X 4)))] 0 0 (fun r _ => r = lkP X n now e0 w) (fun _ => [(x0, .inr (5, [.ref a0, .ref y1, .ref y2, .ref y3, .ref y4, .ref y5, .int now, .int rf])), (a0, .inr (0, [.ref a1, .ref a2, .ref a3, .ref a4, .ref a5, .int (nI n)])), (a1, .inl (cA, 80, .inl (X 0))), (a2, .inl (cA, 80, .inl (X 1))), (a3, .inl (cA, 80, .inl (X 2))), (a4, .inl (cA, 80, .inl (X 3))), (a5, .inl (cA, 80, .inl (X 4)))]) := by
  refine Ci.of (cc := c_X_look) (nL := 3) (lv := [(0, .ref x0), (1, .int (nI e0)), (2, .int w)]) (by decide) rfl (Nat.le_of_ble_eq_true rfl) rfl ?_
  intro p e s m args below meth cd A Q F hK hN hA ret
  have h80 := hA0.1
  refine j_aloadn F d_X_look_0 0 rfl rfl ?_
  refine j_get (ci := 5) (v := .ref a0) F in_X hK 0 rfl rfl 0 (by decide) (wm k_134) rfl d_X_look_1 ?_
  refine j_iloadn F d_X_look_4 1 rfl rfl ?_
  refine j_goi (wc := [(a0, .inr (0, [.ref a1, .ref a2, .ref a3, .ref a4, .ref a5, .int (nI n)])), (a1, .inl (cA, 80, .inl (X 0))), (a2, .inl (cA, 80, .inl (X 1))), (a3, .inl (cA, 80, .inl (X 2))), (a4, .inl (cA, 80, .inl (X 3))), (a5, .inl (cA, 80, .inl (X 4)))]) (wr := [(x0, .inr (5, [.ref a0, .ref y1, .ref y2, .ref y3, .ref y4, .ref y5, .int now, .int rf]))]) hA [1, 2, 3, 4, 5, 6] [0] rfl rfl (by decide) (by decide) (fun H locs ls hP hD hl => va_runVN (As := [.int (nI e0)]) (rest := []) F (ct_A_has l D cA a0 a1 a2 a3 a4 a5 X n (by omega) (nI e0) H.size) ⟨va_cnB 1 F.2.2.2.2 (gd k_183) rfl rfl rfl (hN _ n_430).1 (F.2.2.2.2 _ (wm k_2)) (by decide +kernel) ⟨by decide, by decide⟩, F.2.2.2.2 _ (wm k_182), F.2.2.2.2 _ (wm ks_2)⟩ (pre_V rfl hK hN hP hD [1, 2, 3, 4, 5, 6] rfl (by decide) 1 rfl rfl) rfl rfl hl.1 rfl (lv_room (Nat.le_of_ble_eq_true rfl)) d_X_look_5 ⟨by decide, by decide⟩) (fun r5 u5 hw5 => ?_)
  subst hw5
  refine j_ws (ws' := [(x0, .inr (5, [.ref a0, .ref y1, .ref y2, .ref y3, .ref y4, .ref y5, .int now, .int rf])), (a0, .inr (0, [.ref a1, .ref a2, .ref a3, .ref a4, .ref a5, .int (nI n)])), (a1, .inl (cA, 80, .inl (X 0))), (a2, .inl (cA, 80, .inl (X 1))), (a3, .inl (cA, 80, .inl (X 2))), (a4, .inl (cA, 80, .inl (X 3))), (a5, .inl (cA, 80, .inl (X 4)))]) [0, 1, 2, 3, 4, 5, 6] (by decide) rfl ?_
  refine j_if_ne (tgt := 21) F d_X_look_8 (by decide) (fun c_8 => ?_) (fun c_8 => ?_)
  · refine j_iloadn F d_X_look_21 2 rfl rfl ?_
    have sw := jn_sw5 w
    rcases sw with hz | hz | hz | hz | hz | hz | hz
    · refine j_tabIn (tgt := 60) F d_X_look_22 0 hz.1 (by decide) (by decide) rfl (by decide) ?_
      refine j_aloadn F d_X_look_60 0 rfl rfl ?_
      refine j_get (ci := 5) (v := .ref a0) F in_X hK 0 rfl rfl 0 (by decide) (wm k_134) rfl d_X_look_61 ?_
      refine j_getN (ci := 0) (v := .ref a1) F in_A hK hN 1 rfl rfl 0 (by decide) n_33 rfl d_X_look_64 ?_
      refine j_iloadn F d_X_look_67 1 rfl rfl ?_
      refine j_iald (v := (X 0) e0) F hK 2 0 rfl rfl (by omega) (by decide) d_X_look_68 rfl ?_
      exact ret _ _ _ _ _ _ () d_X_look_69 rfl (by decide) (by decide) rfl (by unfold lkP; rw [if_pos hz.2])
    · refine j_tabIn (tgt := 70) F d_X_look_22 1 hz.1 (by decide) (by decide) rfl (by decide) ?_
      refine j_aloadn F d_X_look_70 0 rfl rfl ?_
      refine j_get (ci := 5) (v := .ref a0) F in_X hK 0 rfl rfl 0 (by decide) (wm k_134) rfl d_X_look_71 ?_
      refine j_getN (ci := 0) (v := .ref a2) F in_A hK hN 1 rfl rfl 1 (by decide) n_37 rfl d_X_look_74 ?_
      refine j_iloadn F d_X_look_77 1 rfl rfl ?_
      refine j_iald (v := (X 1) e0) F hK 3 0 rfl rfl (by omega) (by decide) d_X_look_78 rfl ?_
      exact ret _ _ _ _ _ _ () d_X_look_79 rfl (by decide) (by decide) rfl (by unfold lkP; rw [if_neg (kne hz.2 (by decide) (by decide) (by decide)), if_pos hz.2])
    · refine j_tabIn (tgt := 80) F d_X_look_22 2 hz.1 (by decide) (by decide) rfl (by decide) ?_
      refine j_aloadn F d_X_look_80 0 rfl rfl ?_
      refine j_get (ci := 5) (v := .ref a0) F in_X hK 0 rfl rfl 0 (by decide) (wm k_134) rfl d_X_look_81 ?_
      refine j_getN (ci := 0) (v := .ref a3) F in_A hK hN 1 rfl rfl 2 (by decide) n_41 rfl d_X_look_84 ?_
      refine j_iloadn F d_X_look_87 1 rfl rfl ?_
      refine j_iald (v := (X 2) e0) F hK 4 0 rfl rfl (by omega) (by decide) d_X_look_88 rfl ?_
      exact ret _ _ _ _ _ _ () d_X_look_89 rfl (by decide) (by decide) rfl (by unfold lkP; rw [if_neg (kne hz.2 (by decide) (by decide) (by decide)), if_neg (kne hz.2 (by decide) (by decide) (by decide)), if_pos hz.2])
    · refine j_tabIn (tgt := 90) F d_X_look_22 3 hz.1 (by decide) (by decide) rfl (by decide) ?_
      refine j_aloadn F d_X_look_90 0 rfl rfl ?_
      refine j_get (ci := 5) (v := .ref a0) F in_X hK 0 rfl rfl 0 (by decide) (wm k_134) rfl d_X_look_91 ?_
      refine j_getN (ci := 0) (v := .ref a4) F in_A hK hN 1 rfl rfl 3 (by decide) n_44 rfl d_X_look_94 ?_
      refine j_iloadn F d_X_look_97 1 rfl rfl ?_
      refine j_iald (v := (X 3) e0) F hK 5 0 rfl rfl (by omega) (by decide) d_X_look_98 rfl ?_
      exact ret _ _ _ _ _ _ () d_X_look_99 rfl (by decide) (by decide) rfl (by unfold lkP; rw [if_neg (kne hz.2 (by decide) (by decide) (by decide)), if_neg (kne hz.2 (by decide) (by decide) (by decide)), if_neg (kne hz.2 (by decide) (by decide) (by decide)), if_pos hz.2])
    · refine j_tabIn (tgt := 100) F d_X_look_22 4 hz.1 (by decide) (by decide) rfl (by decide) ?_
      refine j_aloadn F d_X_look_100 0 rfl rfl ?_
      refine j_get (ci := 5) (v := .ref a0) F in_X hK 0 rfl rfl 0 (by decide) (wm k_134) rfl d_X_look_101 ?_
      refine j_getN (ci := 0) (v := .ref a5) F in_A hK hN 1 rfl rfl 4 (by decide) n_46 rfl d_X_look_104 ?_
      refine j_iloadn F d_X_look_107 1 rfl rfl ?_
      refine j_iald (v := (X 4) e0) F hK 6 0 rfl rfl (by omega) (by decide) d_X_look_108 rfl ?_
      exact ret _ _ _ _ _ _ () d_X_look_109 rfl (by decide) (by decide) rfl (by unfold lkP; rw [if_neg (kne hz.2 (by decide) (by decide) (by decide)), if_neg (kne hz.2 (by decide) (by decide) (by decide)), if_neg (kne hz.2 (by decide) (by decide) (by decide)), if_neg (kne hz.2 (by decide) (by decide) (by decide)), if_pos hz.2])
    · refine j_tabIn (tgt := 110) F d_X_look_22 5 hz.1 (by decide) (by decide) rfl (by decide) ?_
      refine j_aloadn F d_X_look_110 0 rfl rfl ?_
      refine j_get (ci := 5) (v := .ref a0) F in_X hK 0 rfl rfl 0 (by decide) (wm k_134) rfl d_X_look_111 ?_
      refine j_iloadn F d_X_look_114 1 rfl rfl ?_
      refine j_aloadn F d_X_look_115 0 rfl rfl ?_
      refine j_get (ci := 5) (v := .int now) F in_X hK 0 rfl rfl 6 (by decide) (wm k_140) rfl d_X_look_116 ?_
      refine j_goi (wc := [(a0, .inr (0, [.ref a1, .ref a2, .ref a3, .ref a4, .ref a5, .int (nI n)])), (a1, .inl (cA, 80, .inl (X 0))), (a2, .inl (cA, 80, .inl (X 1))), (a3, .inl (cA, 80, .inl (X 2))), (a4, .inl (cA, 80, .inl (X 3))), (a5, .inl (cA, 80, .inl (X 4)))]) (wr := [(x0, .inr (5, [.ref a0, .ref y1, .ref y2, .ref y3, .ref y4, .ref y5, .int now, .int rf]))]) hA [1, 2, 3, 4, 5, 6] [0] rfl rfl (by decide) (by decide) (fun H locs ls hP hD hl => va_runVN (As := [.int (nI e0), .int now]) (rest := []) F (ct_A_isVoid l D cA a0 a1 a2 a3 a4 a5 X n hA0 e0 (by omega) now H.size) ⟨va_cnB 2 F.2.2.2.2 (gd k_204) rfl rfl rfl (hN _ n_447).1 (F.2.2.2.2 _ (wm k_2)) (by decide +kernel) ⟨by decide, by decide⟩, F.2.2.2.2 _ (wm k_203), F.2.2.2.2 _ (wm ks_5)⟩ (pre_V rfl hK hN hP hD [1, 2, 3, 4, 5, 6] rfl (by decide) 1 rfl rfl) rfl rfl hl.1 rfl (lv_room (Nat.le_of_ble_eq_true rfl)) d_X_look_119 ⟨by decide, by decide⟩) (fun r119 u119 hw119 => ?_)
      subst hw119
      refine j_ws (ws' := [(x0, .inr (5, [.ref a0, .ref y1, .ref y2, .ref y3, .ref y4, .ref y5, .int now, .int rf])), (a0, .inr (0, [.ref a1, .ref a2, .ref a3, .ref a4, .ref a5, .int (nI n)])), (a1, .inl (cA, 80, .inl (X 0))), (a2, .inl (cA, 80, .inl (X 1))), (a3, .inl (cA, 80, .inl (X 2))), (a4, .inl (cA, 80, .inl (X 3))), (a5, .inl (cA, 80, .inl (X 4)))]) [0, 1, 2, 3, 4, 5, 6] (by decide) rfl ?_
      refine j_if_eq (tgt := 129) F d_X_look_122 (by decide) (fun c_122 => ?_) (fun c_122 => ?_)
      · refine j_iconst (v := nI 0) F d_X_look_129 (by decide) ?_
        exact ret _ _ _ _ _ _ () d_X_look_130 rfl (by decide) (by decide) rfl (by unfold lkP; rw [if_neg (kne hz.2 (by decide) (by decide) (by decide)), if_neg (kne hz.2 (by decide) (by decide) (by decide)), if_neg (kne hz.2 (by decide) (by decide) (by decide)), if_neg (kne hz.2 (by decide) (by decide) (by decide)), if_neg (kne hz.2 (by decide) (by decide) (by decide))]; exact bI_f (bI_0 c_122))
      · refine j_iconst (v := nI 1) F d_X_look_125 (by decide) ?_
        refine j_goto (tgt := 130) F d_X_look_126 (by decide) ?_
        exact ret _ _ _ _ _ _ () d_X_look_130 rfl (by decide) (by decide) rfl (by unfold lkP; rw [if_neg (kne hz.2 (by decide) (by decide) (by decide)), if_neg (kne hz.2 (by decide) (by decide) (by decide)), if_neg (kne hz.2 (by decide) (by decide) (by decide)), if_neg (kne hz.2 (by decide) (by decide) (by decide)), if_neg (kne hz.2 (by decide) (by decide) (by decide))]; exact bI_t (bI_1 c_122))
    · refine j_tabOut (tgt := 131) F d_X_look_22 hz.1 (by decide) ?_
      obtain ⟨j, -, hj, ej⟩ := win_nat (by decide) hw (by decide)
      exact absurd ej (hz.2 j (by omega))
  · exact absurd (bI_0 c_8) (by rw [has_of he0 (by omega)]; decide)

def rmx_X_look : Room := { frames := 6, cells := 1, slots := 6, locals := 92 }
set_option maxHeartbeats 4000000 in
set_option maxRecDepth 100000 in
theorem cx_X_look (l : Launch) (hst : l.stackTraces = false) (D : va_G) (cA : ClassId) (x0 y1 y2 y3 y4 y5 : Nat) (now rf : Int32) (a0 a1 a2 a3 a4 a5 : Nat) (X : AF) (n : Nat) (hA0 : aok X n) (a w : Int32) (hbad : (hasB n a && win w (nI 0) (nI 5)) = false) : Cx (S := Unit) l y_X_look (Cond.code y_X_look c_X_look 3 (some .int) :: WD) rmx_X_look D vwCl [(cA, .int)] nws [.ref x0, .int a, .int w] [(x0, .inr (5, [.ref a0, .ref y1, .ref y2, .ref y3, .ref y4, .ref y5, .int now, .int rf])), (a0, .inr (0, [.ref a1, .ref a2, .ref a3, .ref a4, .ref a5, .int (nI n)])), (a1, .inl (cA, 80, .inl (X 0))), (a2, .inl (cA, 80, .inl (X 1))), (a3, .inl (cA, 80, .inl (X 2))), (a4, .inl (cA, 80, .inl (X 3))), (a5, .inl (cA, 80, .inl (X 4)))] 1 6 "java/lang/IndexOutOfBoundsException" (fun _ => True) (fun _ => [(x0, .inr (5, [.ref a0, .ref y1, .ref y2, .ref y3, .ref y4, .ref y5, .int now, .int rf])), (a0, .inr (0, [.ref a1, .ref a2, .ref a3, .ref a4, .ref a5, .int (nI n)])), (a1, .inl (cA, 80, .inl (X 0))), (a2, .inl (cA, 80, .inl (X 1))), (a3, .inl (cA, 80, .inl (X 2))), (a4, .inl (cA, 80, .inl (X 3))), (a5, .inl (cA, 80, .inl (X 4)))]) := by
  refine Cx.of (cc := c_X_look) (nL := 3) (ret := (some .int)) (lv := [(0, .ref x0), (1, .int a), (2, .int w)]) hst (by decide) rfl (Nat.le_of_ble_eq_true rfl) rfl ?_
  intro p e s m args below meth cd A Q F hK hN hE hA thr out
  have h80 := hA0.1
  refine j_aloadn F d_X_look_0 0 rfl rfl ?_
  refine j_get (ci := 5) (v := .ref a0) F in_X hK 0 rfl rfl 0 (by decide) (wm k_134) rfl d_X_look_1 ?_
  refine j_iloadn F d_X_look_4 1 rfl rfl ?_
  refine j_goi (wc := [(a0, .inr (0, [.ref a1, .ref a2, .ref a3, .ref a4, .ref a5, .int (nI n)])), (a1, .inl (cA, 80, .inl (X 0))), (a2, .inl (cA, 80, .inl (X 1))), (a3, .inl (cA, 80, .inl (X 2))), (a4, .inl (cA, 80, .inl (X 3))), (a5, .inl (cA, 80, .inl (X 4)))]) (wr := [(x0, .inr (5, [.ref a0, .ref y1, .ref y2, .ref y3, .ref y4, .ref y5, .int now, .int rf]))]) hA [1, 2, 3, 4, 5, 6] [0] rfl rfl (by decide) (by decide) (fun H locs ls hP hD hl => va_runVN (As := [.int a]) (rest := []) F (ct_A_has l D cA a0 a1 a2 a3 a4 a5 X n (by omega) a H.size) ⟨va_cnB 1 F.2.2.2.2 (gd k_183) rfl rfl rfl (hN _ n_430).1 (F.2.2.2.2 _ (wm k_2)) (by decide +kernel) ⟨by decide, by decide⟩, F.2.2.2.2 _ (wm k_182), F.2.2.2.2 _ (wm ks_2)⟩ (pre_V rfl hK hN hP hD [1, 2, 3, 4, 5, 6] rfl (by decide) 1 rfl rfl) rfl rfl hl.1 rfl (lv_room (Nat.le_of_ble_eq_true rfl)) d_X_look_5 ⟨by decide, by decide⟩) (fun r5 u5 hw5 => ?_)
  subst hw5
  refine j_ws (ws' := [(x0, .inr (5, [.ref a0, .ref y1, .ref y2, .ref y3, .ref y4, .ref y5, .int now, .int rf])), (a0, .inr (0, [.ref a1, .ref a2, .ref a3, .ref a4, .ref a5, .int (nI n)])), (a1, .inl (cA, 80, .inl (X 0))), (a2, .inl (cA, 80, .inl (X 1))), (a3, .inl (cA, 80, .inl (X 2))), (a4, .inl (cA, 80, .inl (X 3))), (a5, .inl (cA, 80, .inl (X 4)))]) [0, 1, 2, 3, 4, 5, 6] (by decide) rfl ?_
  refine j_if_ne (tgt := 21) F d_X_look_8 (by decide) (fun c_8 => ?_) (fun c_8 => ?_)
  · have e1 := bI_1 c_8
    rw [e1, Bool.true_and] at hbad
    refine j_iloadn F d_X_look_21 2 rfl rfl ?_
    have sw := jn_sw5 w
    rcases sw with hz | hz | hz | hz | hz | hz | hz
    · refine j_tabIn (tgt := 60) F d_X_look_22 0 hz.1 (by decide) (by decide) rfl (by decide) ?_
      exact absurd hbad (by rw [win_of hz.2 (by decide) (by decide)]; decide)
    · refine j_tabIn (tgt := 70) F d_X_look_22 1 hz.1 (by decide) (by decide) rfl (by decide) ?_
      exact absurd hbad (by rw [win_of hz.2 (by decide) (by decide)]; decide)
    · refine j_tabIn (tgt := 80) F d_X_look_22 2 hz.1 (by decide) (by decide) rfl (by decide) ?_
      exact absurd hbad (by rw [win_of hz.2 (by decide) (by decide)]; decide)
    · refine j_tabIn (tgt := 90) F d_X_look_22 3 hz.1 (by decide) (by decide) rfl (by decide) ?_
      exact absurd hbad (by rw [win_of hz.2 (by decide) (by decide)]; decide)
    · refine j_tabIn (tgt := 100) F d_X_look_22 4 hz.1 (by decide) (by decide) rfl (by decide) ?_
      exact absurd hbad (by rw [win_of hz.2 (by decide) (by decide)]; decide)
    · refine j_tabIn (tgt := 110) F d_X_look_22 5 hz.1 (by decide) (by decide) rfl (by decide) ?_
      exact absurd hbad (by rw [win_of hz.2 (by decide) (by decide)]; decide)
    · refine j_tabOut (tgt := 131) F d_X_look_22 hz.1 (by decide) ?_
      exact thr _ _ _ _ _ _ 113 139 117 "no such what" nmE () d_X_look_131 d_X_look_134 d_X_look_135 d_X_look_137 d_X_look_140 (by decide +kernel) (by decide +kernel) (wm k_431) (wm k_15) hE.2.2.2.2.2 (hatI F.2.2.2.2 hN) gdI (by decide) (Nat.le_of_ble_eq_true rfl) (by decide) (by decide) (by decide) (by decide) rfl trivial
  · exact thr _ _ _ _ _ _ 113 115 117 "no such act" nmE () d_X_look_11 d_X_look_14 d_X_look_15 d_X_look_17 d_X_look_20 (by decide +kernel) (by decide +kernel) (wm k_431) (wm k_15) hE.2.2.2.2.1 (hatI F.2.2.2.2 hN) gdI (by decide) (Nat.le_of_ble_eq_true rfl) (by decide) (by decide) (by decide) (by decide) rfl trivial
