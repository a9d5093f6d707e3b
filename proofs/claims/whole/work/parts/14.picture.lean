def rm_P_boxIn : Room := { frames := 0, cells := 0, slots := 0, locals := 0 }
set_option maxHeartbeats 4000000 in
set_option maxRecDepth 100000 in
theorem ct_P_boxIn (l : Launch) (D : va_G) (cA : ClassId) (p0 p1 p2 p3 : Nat) (sl tt sm : Nat → Int32) (x : Int32) : Ci (S := Unit) l y_P_boxIn (Cond.code y_P_boxIn c_P_boxIn 3 (some .int) :: WD) rm_P_boxIn D vwCl [(cA, .int)] nws [.ref p0, .int x] [(p0, .inr (3, [.ref p1, .ref p2, .ref p3])), (p1, .inl (cA, 20, .inl sl)), (p2, .inl (cA, 10, .inl tt)), (p3, .inl (cA, 10, .inl sm))] 0 0 (fun r _ => bxP sl x r) (fun _ => [(p0, .inr (3, [.ref p1, .ref p2, .ref p3])), (p1, .inl (cA, 20, .inl sl)), (p2, .inl (cA, 10, .inl tt)), (p3, .inl (cA, 10, .inl sm))]) := by
  refine Ci.of (cc := c_P_boxIn) (nL := 3) (lv := [(0, .ref p0), (1, .int x)]) (by decide) rfl (Nat.le_of_ble_eq_true rfl) rfl ?_
  intro p e s m args below meth cd A Q F hK hN hA ret
  refine j_iconst (v := nI 0) F d_P_boxIn_0 (by decide) ?_
  refine j_istoren (lv' := [(2, .int (nI 0)), (0, .ref p0), (1, .int x)]) F d_P_boxIn_1 rfl (by decide) rfl ?_
  have loop2 : ∀ (fuel : Nat) (j : Nat) (hfuel2 : 20 - j < fuel) (hj : j ≤ 20) (hv : ∀ i, i < j → ¬ sl i = x), J p l e rm_P_boxIn s m args below meth cd D vwCl A s.heap 3 0 0 Q [(p0, .inr (3, [.ref p1, .ref p2, .ref p3])), (p1, .inl (cA, 20, .inl sl)), (p2, .inl (cA, 10, .inl tt)), (p3, .inl (cA, 10, .inl sm))] [(0, .ref p0), (1, .int x), (2, .int (nI j))] 2 [] := by
    intro fuel
    induction fuel with
    | zero => intro j hfuel; exact absurd hfuel (Nat.not_lt_zero _)
    | succ fuel ih2 =>
      intro j hfuel2 hj hv
      refine j_iloadn F d_P_boxIn_2 2 rfl rfl ?_
      refine j_bipush (v := nI 20) F d_P_boxIn_3 (by decide) ?_
      refine j_ic_ge (tgt := 26) F d_P_boxIn_5 (by decide) (fun c_5 => ?_) (fun c_5 => ?_)
      · have c_5 : 20 ≤ j := (nI_leI (by omega) (by omega)).mp c_5
        refine j_iconst (v := (-1)) F d_P_boxIn_26 (by decide) ?_
        exact ret _ _ _ _ _ _ () d_P_boxIn_27 rfl (by decide) (by decide) rfl (Or.inl ⟨rfl, fun i hi => hv i (by omega)⟩)
      · have c_5 : ¬ 20 ≤ j := fun h => c_5 ((nI_leI (by omega) (by omega)).mpr h)
        refine j_aloadn F d_P_boxIn_8 0 rfl rfl ?_
        refine j_get (ci := 3) (v := .ref p1) F in_P hK 0 rfl rfl 0 (by decide) (wm k_87) rfl d_P_boxIn_9 ?_
        refine j_iloadn F d_P_boxIn_12 2 rfl rfl ?_
        refine j_iald (v := sl j) F hK 1 0 rfl rfl (by omega) (by decide) d_P_boxIn_13 rfl ?_
        refine j_iloadn F d_P_boxIn_14 1 rfl rfl ?_
        refine j_ic_ne (tgt := 20) F d_P_boxIn_15 (by decide) (fun c_15 => ?_) (fun c_15 => ?_)
        · refine j_iinc (v := nI (j + 1)) (lv' := [(2, .int (nI (j + 1))), (0, .ref p0), (1, .int x)]) F d_P_boxIn_20 2 rfl (jn_inc j) (by decide) rfl ?_
          refine j_goto (tgt := 2) F d_P_boxIn_23 (by decide) ?_
          refine j_lv (lv' := [(0, .ref p0), (1, .int x), (2, .int (nI (j + 1)))]) [1, 2, 0] rfl ?_
          exact ih2 (j + 1) (by omega) (by omega) (fun i hi => by
            by_cases e1 : i = j
            · rw [e1]; exact c_15
            · exact hv i (by omega))
        · refine j_iloadn F d_P_boxIn_18 2 rfl rfl ?_
          exact ret _ _ _ _ _ _ () d_P_boxIn_19 rfl (by decide) (by decide) rfl (Or.inr ⟨j, by omega, rfl, c_15⟩)
  refine j_lv (lv' := [(0, .ref p0), (1, .int x), (2, .int (nI 0))]) [1, 2, 0] rfl ?_
  exact loop2 (20 + 1) 0 (by omega) (by omega) (fun i hi => absurd hi (Nat.not_lt_zero _))

def rm_P_apply : Room := { frames := 1, cells := 0, slots := 0, locals := 24 }
set_option maxHeartbeats 4000000 in
set_option maxRecDepth 100000 in
theorem ct_P_apply (l : Launch) (D : va_G) (cA : ClassId) (p0 p1 p2 p3 : Nat) (sl tt sm : Nat → Int32) (X : AF) (e0 : Nat) (hk : aok1 X e0) : Cv (S := Unit) l y_P_apply (Cond.code y_P_apply c_P_apply 4 none :: WD) rm_P_apply D vwCl [(cA, .int)] nws [.ref p0, .int (X 0 e0), .int (X 1 e0), .int (X 2 e0)] [(p0, .inr (3, [.ref p1, .ref p2, .ref p3])), (p1, .inl (cA, 20, .inl sl)), (p2, .inl (cA, 10, .inl tt)), (p3, .inl (cA, 10, .inl sm))] 0 0 (fun _ => True) (fun _ => [(p0, .inr (3, [.ref p1, .ref p2, .ref p3])), (p1, .inl (cA, 20, .inl (stS X e0 sl))), (p2, .inl (cA, 10, .inl (stT X e0 tt))), (p3, .inl (cA, 10, .inl (stM X e0 sm)))]) := by
  refine Cv.of (cc := c_P_apply) (nL := 4) (lv := [(0, .ref p0), (1, .int (X 0 e0)), (2, .int (X 1 e0)), (3, .int (X 2 e0))]) (by decide) rfl (Nat.le_of_ble_eq_true rfl) rfl ?_
  intro p e s m args below meth cd A Q F hK hN hA hinit ret
  refine j_iloadn F d_P_apply_0 1 rfl rfl ?_
  have sw := jn_sw3 (X 0 e0)
  rcases sw with hz | hz | hz | hz | hz
  · refine j_tabIn (tgt := 32) F d_P_apply_1 0 hz.1 (by decide) (by decide) rfl (by decide) ?_
    obtain ⟨⟨a', ha', ea⟩, -⟩ := aok_0 hk hz.2
    rw [ea]
    refine j_aloadn F d_P_apply_32 0 rfl rfl ?_
    refine j_iloadn F d_P_apply_33 3 rfl rfl ?_
    refine j_goi (wc := [(p0, .inr (3, [.ref p1, .ref p2, .ref p3])), (p1, .inl (cA, 20, .inl sl)), (p2, .inl (cA, 10, .inl tt)), (p3, .inl (cA, 10, .inl sm))]) (wr := []) hA [0, 1, 2, 3] [] rfl rfl (by decide) (by decide) (fun H locs ls hP hD hl => va_runV (As := [.int (X 2 e0)]) (rest := []) F (ct_P_boxIn l D cA p0 p1 p2 p3 sl tt sm (X 2 e0) H.size) ⟨callB_of 1 F.2.2.2.2 (gd k_322) rfl rfl rfl (F.2.2.2.2 _ (wm k_4)) (F.2.2.2.2 _ (wm k_319)) (by decide +kernel) ⟨by decide, by decide⟩, F.2.2.2.2 _ (wm k_321), F.2.2.2.2 _ (wm ks_15)⟩ (pre_V rfl hK hN hP hD [0, 1, 2, 3] rfl (by decide) 0 rfl rfl) rfl rfl hl.1 rfl (lv_room (Nat.le_of_ble_eq_true rfl)) d_P_apply_34 ⟨by decide, by decide⟩) (fun r34 u34 hw34 => ?_)
    refine j_ws (ws' := [(p0, .inr (3, [.ref p1, .ref p2, .ref p3])), (p1, .inl (cA, 20, .inl sl)), (p2, .inl (cA, 10, .inl tt)), (p3, .inl (cA, 10, .inl sm))]) [0, 1, 2, 3] (by decide) rfl ?_
    refine j_iconst (v := (-1)) F d_P_apply_37 (by decide) ?_
    refine j_ic_ne (tgt := 93) F d_P_apply_38 (by decide) (fun c_38 => ?_) (fun c_38 => ?_)
    · exact ret _ _ _ _ _ () d_P_apply_93 (by decide) (by decide) (by dsimp only; rw [stS_0f hz.2 (bxP_f hw34 c_38), stT_n (kne hz.2 (by decide) (by decide) (by decide)), stM_n (kne hz.2 (by decide) (by decide) (by decide))]) trivial
    · refine j_aloadn F d_P_apply_41 0 rfl rfl ?_
      refine j_get (ci := 3) (v := .ref p1) F in_P hK 0 rfl rfl 0 (by decide) (wm k_87) rfl d_P_apply_42 ?_
      refine j_iloadn F d_P_apply_45 2 rfl rfl ?_
      refine j_iloadn F d_P_apply_46 3 rfl rfl ?_
      refine j_iast (ws' := [(p0, .inr (3, [.ref p1, .ref p2, .ref p3])), (p1, .inl (cA, 20, .inl (upd sl a' (X 2 e0)))), (p2, .inl (cA, 10, .inl tt)), (p3, .inl (cA, 10, .inl sm))]) F hK 1 0 rfl rfl (by omega) (by decide) d_P_apply_47 rfl ?_
      refine j_goto (tgt := 93) F d_P_apply_48 (by decide) ?_
      exact ret _ _ _ _ _ () d_P_apply_93 (by decide) (by decide) (by dsimp only; rw [stS_0t hz.2 ea ha' (bxP_t hw34 c_38), stT_n (kne hz.2 (by decide) (by decide) (by decide)), stM_n (kne hz.2 (by decide) (by decide) (by decide))]) trivial
  · refine j_tabIn (tgt := 51) F d_P_apply_1 1 hz.1 (by decide) (by decide) rfl (by decide) ?_
    obtain ⟨a', ha', ea⟩ := aok_1 hk hz.2
    rw [ea]
    refine j_aloadn F d_P_apply_51 0 rfl rfl ?_
    refine j_get (ci := 3) (v := .ref p1) F in_P hK 0 rfl rfl 0 (by decide) (wm k_87) rfl d_P_apply_52 ?_
    refine j_iloadn F d_P_apply_55 2 rfl rfl ?_
    refine j_iconst (v := (-1)) F d_P_apply_56 (by decide) ?_
    refine j_iast (ws' := [(p0, .inr (3, [.ref p1, .ref p2, .ref p3])), (p1, .inl (cA, 20, .inl (upd sl a' (-1)))), (p2, .inl (cA, 10, .inl tt)), (p3, .inl (cA, 10, .inl sm))]) F hK 1 0 rfl rfl (by omega) (by decide) d_P_apply_57 rfl ?_
    refine j_goto (tgt := 93) F d_P_apply_58 (by decide) ?_
    exact ret _ _ _ _ _ () d_P_apply_93 (by decide) (by decide) (by dsimp only; rw [stS_1 hz.2 ea ha', stT_n (kne hz.2 (by decide) (by decide) (by decide)), stM_n (kne hz.2 (by decide) (by decide) (by decide))]) trivial
  · refine j_tabIn (tgt := 61) F d_P_apply_1 2 hz.1 (by decide) (by decide) rfl (by decide) ?_
    obtain ⟨a', ha', ea⟩ := aok_2 hk hz.2
    rw [ea]
    refine j_aloadn F d_P_apply_61 0 rfl rfl ?_
    refine j_get (ci := 3) (v := .ref p2) F in_P hK 0 rfl rfl 1 (by decide) (wm k_90) rfl d_P_apply_62 ?_
    refine j_iloadn F d_P_apply_65 2 rfl rfl ?_
    refine j_aloadn F d_P_apply_66 0 rfl rfl ?_
    refine j_get (ci := 3) (v := .ref p2) F in_P hK 0 rfl rfl 1 (by decide) (wm k_90) rfl d_P_apply_67 ?_
    refine j_iloadn F d_P_apply_70 2 rfl rfl ?_
    refine j_iald (v := tt a') F hK 2 0 rfl rfl (by omega) (by decide) d_P_apply_71 rfl ?_
    refine j_iloadn F d_P_apply_72 3 rfl rfl ?_
    refine j_mmax (v := if (tt a') < (X 2 e0) then (X 2 e0) else (tt a')) F (wm k_323) (wm k_324) (wm k_13) (wm k_325) (by decide) (Nat.le_of_ble_eq_true rfl) (by decide) (by decide) d_P_apply_73 rfl ?_
    refine j_iast (ws' := [(p0, .inr (3, [.ref p1, .ref p2, .ref p3])), (p1, .inl (cA, 20, .inl sl)), (p2, .inl (cA, 10, .inl (upd tt a' (if (tt a') < (X 2 e0) then (X 2 e0) else (tt a'))))), (p3, .inl (cA, 10, .inl sm))]) F hK 2 0 rfl rfl (by omega) (by decide) d_P_apply_76 rfl ?_
    refine j_goto (tgt := 93) F d_P_apply_77 (by decide) ?_
    exact ret _ _ _ _ _ () d_P_apply_93 (by decide) (by decide) (by dsimp only; rw [stS_n (kne hz.2 (by decide) (by decide) (by decide)) (kne hz.2 (by decide) (by decide) (by decide)), stT_2 hz.2 ea ha', stM_n (kne hz.2 (by decide) (by decide) (by decide))]) trivial
  · refine j_tabIn (tgt := 80) F d_P_apply_1 3 hz.1 (by decide) (by decide) rfl (by decide) ?_
    obtain ⟨a', ha', ea⟩ := aok_3 hk hz.2
    rw [ea]
    refine j_aloadn F d_P_apply_80 0 rfl rfl ?_
    refine j_get (ci := 3) (v := .ref p3) F in_P hK 0 rfl rfl 2 (by decide) (wm k_92) rfl d_P_apply_81 ?_
    refine j_iloadn F d_P_apply_84 2 rfl rfl ?_
    refine j_dup2 F d_P_apply_85 rfl rfl ?_
    refine j_iald (v := sm a') F hK 3 0 rfl rfl (by omega) (by decide) d_P_apply_86 rfl ?_
    refine j_iloadn F d_P_apply_87 3 rfl rfl ?_
    refine j_iadd (v := (sm a') + (X 2 e0)) F d_P_apply_88 rfl ?_
    refine j_iast (ws' := [(p0, .inr (3, [.ref p1, .ref p2, .ref p3])), (p1, .inl (cA, 20, .inl sl)), (p2, .inl (cA, 10, .inl tt)), (p3, .inl (cA, 10, .inl (upd sm a' ((sm a') + (X 2 e0)))))]) F hK 3 0 rfl rfl (by omega) (by decide) d_P_apply_89 rfl ?_
    refine j_goto (tgt := 93) F d_P_apply_90 (by decide) ?_
    exact ret _ _ _ _ _ () d_P_apply_93 (by decide) (by decide) (by dsimp only; rw [stS_n (kne hz.2 (by decide) (by decide) (by decide)) (kne hz.2 (by decide) (by decide) (by decide)), stT_n (kne hz.2 (by decide) (by decide) (by decide)), stM_3 hz.2 ea ha']) trivial
  · refine j_tabOut (tgt := 93) F d_P_apply_1 hz.1 (by decide) ?_
    exact ret _ _ _ _ _ () d_P_apply_93 (by decide) (by decide) (by dsimp only; rw [stS_n (hz.2 0 (by decide)) (hz.2 1 (by decide)), stT_n (hz.2 2 (by decide)), stM_n (hz.2 3 (by decide))]) trivial

def rm_P_draw : Room := { frames := 2, cells := 0, slots := 0, locals := 47 }
set_option maxHeartbeats 4000000 in
set_option maxRecDepth 100000 in
theorem ct_P_draw (l : Launch) (D : va_G) (cA : ClassId) (p0 p1 p2 p3 : Nat) (sl tt sm : Nat → Int32) (o0 o1 : Nat) (g : Nat → Int32) (L : List Nat) (a0 a1 a2 a3 a4 a5 : Nat) (X : AF) (n : Nat) (hA0 : aok X n) (hL : rowL g L) (hlen : L.length ≤ 80) (hmem : ∀ i, i < L.length → L.getD i 0 < n) : Cv (S := Unit) l y_P_draw (Cond.code y_P_draw c_P_draw 5 none :: WD) rm_P_draw D vwCl [(cA, .int)] nws [.ref p0, .ref a0, .ref o0] [(p0, .inr (3, [.ref p1, .ref p2, .ref p3])), (p1, .inl (cA, 20, .inl sl)), (p2, .inl (cA, 10, .inl tt)), (p3, .inl (cA, 10, .inl sm)), (o0, .inr (2, [.ref o1, .int (nI L.length)])), (o1, .inl (cA, 80, .inl g)), (a0, .inr (0, [.ref a1, .ref a2, .ref a3, .ref a4, .ref a5, .int (nI n)])), (a1, .inl (cA, 80, .inl (X 0))), (a2, .inl (cA, 80, .inl (X 1))), (a3, .inl (cA, 80, .inl (X 2))), (a4, .inl (cA, 80, .inl (X 3))), (a5, .inl (cA, 80, .inl (X 4)))] 0 0 (fun _ => True) (fun _ => [(p0, .inr (3, [.ref p1, .ref p2, .ref p3])), (p1, .inl (cA, 20, .inl (slT X L L.length))), (p2, .inl (cA, 10, .inl (ttT X L L.length))), (p3, .inl (cA, 10, .inl (smT X L L.length))), (o0, .inr (2, [.ref o1, .int (nI L.length)])), (o1, .inl (cA, 80, .inl g)), (a0, .inr (0, [.ref a1, .ref a2, .ref a3, .ref a4, .ref a5, .int (nI n)])), (a1, .inl (cA, 80, .inl (X 0))), (a2, .inl (cA, 80, .inl (X 1))), (a3, .inl (cA, 80, .inl (X 2))), (a4, .inl (cA, 80, .inl (X 3))), (a5, .inl (cA, 80, .inl (X 4)))]) := by
  refine Cv.of (cc := c_P_draw) (nL := 5) (lv := [(0, .ref p0), (1, .ref a0), (2, .ref o0)]) (by decide) rfl (Nat.le_of_ble_eq_true rfl) rfl ?_
  intro p e s m args below meth cd A Q F hK hN hA hinit ret
  have h80 := hA0.1
  refine j_aloadn F d_P_draw_0 0 rfl rfl ?_
  refine j_get (ci := 3) (v := .ref p1) F in_P hK 0 rfl rfl 0 (by decide) (wm k_87) rfl d_P_draw_1 ?_
  refine j_iconst (v := (-1)) F d_P_draw_4 (by decide) ?_
  refine j_gov (wc := [(p1, .inl (cA, 20, .inl sl))]) (wr := [(p0, .inr (3, [.ref p1, .ref p2, .ref p3])), (p2, .inl (cA, 10, .inl tt)), (p3, .inl (cA, 10, .inl sm)), (o0, .inr (2, [.ref o1, .int (nI L.length)])), (o1, .inl (cA, 80, .inl g)), (a0, .inr (0, [.ref a1, .ref a2, .ref a3, .ref a4, .ref a5, .int (nI n)])), (a1, .inl (cA, 80, .inl (X 0))), (a2, .inl (cA, 80, .inl (X 1))), (a3, .inl (cA, 80, .inl (X 2))), (a4, .inl (cA, 80, .inl (X 3))), (a5, .inl (cA, 80, .inl (X 4)))]) hA [1] [0, 2, 3, 4, 5, 6, 7, 8, 9, 10, 11] rfl rfl (by decide) (by decide) (fun H locs ls hP hD hl => va_runS (As := [.ref p1, .int (-1)]) (rest := []) F (ct_Ar_fill l D cA p1 20 (by decide) sl (-1) H.size) ⟨callB_of 2 F.2.2.2.2 (gd k_314) rfl rfl rfl (F.2.2.2.2 _ (wm k_12)) (F.2.2.2.2 _ (wm k_312)) (by decide +kernel) ⟨by decide, by decide⟩, F.2.2.2.2 _ (wm k_313)⟩ (pre_S hK hN hP hD [1] rfl (by decide)) rfl rfl hl.1 rfl (lv_room (Nat.le_of_ble_eq_true rfl)) d_P_draw_5 ⟨by decide, by decide⟩) (fun u5 hw5 => ?_)
  refine j_ws (ws' := [(p0, .inr (3, [.ref p1, .ref p2, .ref p3])), (p1, .inl (cA, 20, .inl (fun _ => (-1)))), (p2, .inl (cA, 10, .inl tt)), (p3, .inl (cA, 10, .inl sm)), (o0, .inr (2, [.ref o1, .int (nI L.length)])), (o1, .inl (cA, 80, .inl g)), (a0, .inr (0, [.ref a1, .ref a2, .ref a3, .ref a4, .ref a5, .int (nI n)])), (a1, .inl (cA, 80, .inl (X 0))), (a2, .inl (cA, 80, .inl (X 1))), (a3, .inl (cA, 80, .inl (X 2))), (a4, .inl (cA, 80, .inl (X 3))), (a5, .inl (cA, 80, .inl (X 4)))]) [0, 11, 1, 2, 3, 4, 5, 6, 7, 8, 9, 10] (by decide) rfl ?_
  refine j_aloadn F d_P_draw_8 0 rfl rfl ?_
  refine j_get (ci := 3) (v := .ref p2) F in_P hK 0 rfl rfl 1 (by decide) (wm k_90) rfl d_P_draw_9 ?_
  refine j_iconst (v := nI 0) F d_P_draw_12 (by decide) ?_
  refine j_gov (wc := [(p2, .inl (cA, 10, .inl tt))]) (wr := [(p0, .inr (3, [.ref p1, .ref p2, .ref p3])), (p1, .inl (cA, 20, .inl (fun _ => (-1)))), (p3, .inl (cA, 10, .inl sm)), (o0, .inr (2, [.ref o1, .int (nI L.length)])), (o1, .inl (cA, 80, .inl g)), (a0, .inr (0, [.ref a1, .ref a2, .ref a3, .ref a4, .ref a5, .int (nI n)])), (a1, .inl (cA, 80, .inl (X 0))), (a2, .inl (cA, 80, .inl (X 1))), (a3, .inl (cA, 80, .inl (X 2))), (a4, .inl (cA, 80, .inl (X 3))), (a5, .inl (cA, 80, .inl (X 4)))]) hA [2] [0, 1, 3, 4, 5, 6, 7, 8, 9, 10, 11] rfl rfl (by decide) (by decide) (fun H locs ls hP hD hl => va_runS (As := [.ref p2, .int (nI 0)]) (rest := []) F (ct_Ar_fill l D cA p2 10 (by decide) tt (nI 0) H.size) ⟨callB_of 2 F.2.2.2.2 (gd k_314) rfl rfl rfl (F.2.2.2.2 _ (wm k_12)) (F.2.2.2.2 _ (wm k_312)) (by decide +kernel) ⟨by decide, by decide⟩, F.2.2.2.2 _ (wm k_313)⟩ (pre_S hK hN hP hD [2] rfl (by decide)) rfl rfl hl.1 rfl (lv_room (Nat.le_of_ble_eq_true rfl)) d_P_draw_13 ⟨by decide, by decide⟩) (fun u13 hw13 => ?_)
  refine j_ws (ws' := [(p0, .inr (3, [.ref p1, .ref p2, .ref p3])), (p1, .inl (cA, 20, .inl (fun _ => (-1)))), (p2, .inl (cA, 10, .inl (fun _ => nI 0))), (p3, .inl (cA, 10, .inl sm)), (o0, .inr (2, [.ref o1, .int (nI L.length)])), (o1, .inl (cA, 80, .inl g)), (a0, .inr (0, [.ref a1, .ref a2, .ref a3, .ref a4, .ref a5, .int (nI n)])), (a1, .inl (cA, 80, .inl (X 0))), (a2, .inl (cA, 80, .inl (X 1))), (a3, .inl (cA, 80, .inl (X 2))), (a4, .inl (cA, 80, .inl (X 3))), (a5, .inl (cA, 80, .inl (X 4)))]) [0, 1, 11, 2, 3, 4, 5, 6, 7, 8, 9, 10] (by decide) rfl ?_
  refine j_aloadn F d_P_draw_16 0 rfl rfl ?_
  refine j_get (ci := 3) (v := .ref p3) F in_P hK 0 rfl rfl 2 (by decide) (wm k_92) rfl d_P_draw_17 ?_
  refine j_iconst (v := nI 0) F d_P_draw_20 (by decide) ?_
  refine j_gov (wc := [(p3, .inl (cA, 10, .inl sm))]) (wr := [(p0, .inr (3, [.ref p1, .ref p2, .ref p3])), (p1, .inl (cA, 20, .inl (fun _ => (-1)))), (p2, .inl (cA, 10, .inl (fun _ => nI 0))), (o0, .inr (2, [.ref o1, .int (nI L.length)])), (o1, .inl (cA, 80, .inl g)), (a0, .inr (0, [.ref a1, .ref a2, .ref a3, .ref a4, .ref a5, .int (nI n)])), (a1, .inl (cA, 80, .inl (X 0))), (a2, .inl (cA, 80, .inl (X 1))), (a3, .inl (cA, 80, .inl (X 2))), (a4, .inl (cA, 80, .inl (X 3))), (a5, .inl (cA, 80, .inl (X 4)))]) hA [3] [0, 1, 2, 4, 5, 6, 7, 8, 9, 10, 11] rfl rfl (by decide) (by decide) (fun H locs ls hP hD hl => va_runS (As := [.ref p3, .int (nI 0)]) (rest := []) F (ct_Ar_fill l D cA p3 10 (by decide) sm (nI 0) H.size) ⟨callB_of 2 F.2.2.2.2 (gd k_314) rfl rfl rfl (F.2.2.2.2 _ (wm k_12)) (F.2.2.2.2 _ (wm k_312)) (by decide +kernel) ⟨by decide, by decide⟩, F.2.2.2.2 _ (wm k_313)⟩ (pre_S hK hN hP hD [3] rfl (by decide)) rfl rfl hl.1 rfl (lv_room (Nat.le_of_ble_eq_true rfl)) d_P_draw_21 ⟨by decide, by decide⟩) (fun u21 hw21 => ?_)
  refine j_ws (ws' := [(p0, .inr (3, [.ref p1, .ref p2, .ref p3])), (p1, .inl (cA, 20, .inl (fun _ => (-1)))), (p2, .inl (cA, 10, .inl (fun _ => nI 0))), (p3, .inl (cA, 10, .inl (fun _ => nI 0))), (o0, .inr (2, [.ref o1, .int (nI L.length)])), (o1, .inl (cA, 80, .inl g)), (a0, .inr (0, [.ref a1, .ref a2, .ref a3, .ref a4, .ref a5, .int (nI n)])), (a1, .inl (cA, 80, .inl (X 0))), (a2, .inl (cA, 80, .inl (X 1))), (a3, .inl (cA, 80, .inl (X 2))), (a4, .inl (cA, 80, .inl (X 3))), (a5, .inl (cA, 80, .inl (X 4)))]) [0, 1, 2, 11, 3, 4, 5, 6, 7, 8, 9, 10] (by decide) rfl ?_
  refine j_iconst (v := nI 0) F d_P_draw_24 (by decide) ?_
  refine j_istoren (lv' := [(3, .int (nI 0)), (0, .ref p0), (1, .ref a0), (2, .ref o0)]) F d_P_draw_25 rfl (by decide) rfl ?_
  have loop26 : ∀ (fuel : Nat) (i : Nat) (hfuel26 : L.length - i < fuel) (hi : i ≤ L.length), J p l e rm_P_draw s m args below meth cd D vwCl A s.heap 5 0 0 Q [(p0, .inr (3, [.ref p1, .ref p2, .ref p3])), (p1, .inl (cA, 20, .inl (slT X L i))), (p2, .inl (cA, 10, .inl (ttT X L i))), (p3, .inl (cA, 10, .inl (smT X L i))), (o0, .inr (2, [.ref o1, .int (nI L.length)])), (o1, .inl (cA, 80, .inl g)), (a0, .inr (0, [.ref a1, .ref a2, .ref a3, .ref a4, .ref a5, .int (nI n)])), (a1, .inl (cA, 80, .inl (X 0))), (a2, .inl (cA, 80, .inl (X 1))), (a3, .inl (cA, 80, .inl (X 2))), (a4, .inl (cA, 80, .inl (X 3))), (a5, .inl (cA, 80, .inl (X 4)))] [(0, .ref p0), (1, .ref a0), (2, .ref o0), (3, .int (nI i))] 26 [] := by
    intro fuel
    induction fuel with
    | zero => intro i hfuel; exact absurd hfuel (Nat.not_lt_zero _)
    | succ fuel ih26 =>
      intro i hfuel26 hi
      refine j_iloadn F d_P_draw_26 3 rfl rfl ?_
      refine j_aloadn F d_P_draw_27 2 rfl rfl ?_
      refine j_getN (ci := 2) (v := .int (nI L.length)) F in_O hK hN 4 rfl rfl 1 (by decide) n_74 rfl d_P_draw_28 ?_
      refine j_ic_ge (tgt := 73) F d_P_draw_31 (by decide) (fun c_31 => ?_) (fun c_31 => ?_)
      · have c_31 : L.length ≤ i := (nI_leI (by omega) (by omega)).mp c_31
        have hin : i = L.length := by omega
        subst hin
        exact ret _ _ _ _ _ () d_P_draw_73 (by decide) (by decide) rfl trivial
      · have c_31 : ¬ L.length ≤ i := fun h => c_31 ((nI_leI (by omega) (by omega)).mpr h)
        refine j_aloadn F d_P_draw_34 2 rfl rfl ?_
        refine j_getN (ci := 2) (v := .ref o1) F in_O hK hN 4 rfl rfl 0 (by decide) n_71 rfl d_P_draw_35 ?_
        refine j_iloadn F d_P_draw_38 3 rfl rfl ?_
        refine j_iald (v := nI (L.getD i 0)) F hK 5 0 rfl rfl (by omega) (by decide) d_P_draw_39 (hL i (by omega)) ?_
        refine j_istore (lv' := [(4, .int (nI (L.getD i 0))), (0, .ref p0), (1, .ref a0), (2, .ref o0), (3, .int (nI i))]) F d_P_draw_40 (by decide) rfl ?_
        have hm := hmem i (by omega)
        refine j_aloadn F d_P_draw_42 1 rfl rfl ?_
        refine j_aloadn F d_P_draw_43 2 rfl rfl ?_
        refine j_getN (ci := 0) (v := .ref a1) F in_A hK hN 6 rfl rfl 0 (by decide) n_31 rfl d_P_draw_44 ?_
        refine j_iload F d_P_draw_47 0 rfl ?_
        refine j_iald (v := (X 0) (L.getD i 0)) F hK 7 0 rfl rfl (by omega) (by decide) d_P_draw_49 rfl ?_
        refine j_aloadn F d_P_draw_50 2 rfl rfl ?_
        refine j_getN (ci := 0) (v := .ref a2) F in_A hK hN 6 rfl rfl 1 (by decide) n_35 rfl d_P_draw_51 ?_
        refine j_iload F d_P_draw_54 0 rfl ?_
        refine j_iald (v := (X 1) (L.getD i 0)) F hK 8 0 rfl rfl (by omega) (by decide) d_P_draw_56 rfl ?_
        refine j_aloadn F d_P_draw_57 2 rfl rfl ?_
        refine j_getN (ci := 0) (v := .ref a3) F in_A hK hN 6 rfl rfl 2 (by decide) n_39 rfl d_P_draw_58 ?_
        refine j_iload F d_P_draw_61 0 rfl ?_
        refine j_iald (v := (X 2) (L.getD i 0)) F hK 9 0 rfl rfl (by omega) (by decide) d_P_draw_63 rfl ?_
        refine j_gov (wc := [(p0, .inr (3, [.ref p1, .ref p2, .ref p3])), (p1, .inl (cA, 20, .inl (slT X L i))), (p2, .inl (cA, 10, .inl (ttT X L i))), (p3, .inl (cA, 10, .inl (smT X L i)))]) (wr := [(o0, .inr (2, [.ref o1, .int (nI L.length)])), (o1, .inl (cA, 80, .inl g)), (a0, .inr (0, [.ref a1, .ref a2, .ref a3, .ref a4, .ref a5, .int (nI n)])), (a1, .inl (cA, 80, .inl (X 0))), (a2, .inl (cA, 80, .inl (X 1))), (a3, .inl (cA, 80, .inl (X 2))), (a4, .inl (cA, 80, .inl (X 3))), (a5, .inl (cA, 80, .inl (X 4)))]) hA [0, 1, 2, 3] [4, 5, 6, 7, 8, 9, 10, 11] rfl rfl (by decide) (by decide) (fun H locs ls hP hD hl => va_runV (As := [.int ((X 0) (L.getD i 0)), .int ((X 1) (L.getD i 0)), .int ((X 2) (L.getD i 0))]) (rest := []) F (ct_P_apply l D cA p0 p1 p2 p3 (slT X L i) (ttT X L i) (smT X L i) X (L.getD i 0) (hA0.2 _ hm) H.size) ⟨callB_of 3 F.2.2.2.2 (gd k_318) rfl rfl rfl (F.2.2.2.2 _ (wm k_4)) (F.2.2.2.2 _ (wm k_315)) (by decide +kernel) ⟨by decide, by decide⟩, F.2.2.2.2 _ (wm k_317), F.2.2.2.2 _ (wm ks_14)⟩ (pre_V rfl hK hN hP hD [0, 1, 2, 3] rfl (by decide) 0 rfl rfl) rfl rfl hl.1 rfl (lv_room (Nat.le_of_ble_eq_true rfl)) d_P_draw_64 ⟨by decide, by decide⟩) (fun u64 hw64 => ?_)
        refine j_ws (ws' := [(p0, .inr (3, [.ref p1, .ref p2, .ref p3])), (p1, .inl (cA, 20, .inl (stS X (L.getD i 0) (slT X L i)))), (p2, .inl (cA, 10, .inl (stT X (L.getD i 0) (ttT X L i)))), (p3, .inl (cA, 10, .inl (stM X (L.getD i 0) (smT X L i)))), (o0, .inr (2, [.ref o1, .int (nI L.length)])), (o1, .inl (cA, 80, .inl g)), (a0, .inr (0, [.ref a1, .ref a2, .ref a3, .ref a4, .ref a5, .int (nI n)])), (a1, .inl (cA, 80, .inl (X 0))), (a2, .inl (cA, 80, .inl (X 1))), (a3, .inl (cA, 80, .inl (X 2))), (a4, .inl (cA, 80, .inl (X 3))), (a5, .inl (cA, 80, .inl (X 4)))]) [8, 9, 10, 11, 0, 1, 2, 3, 4, 5, 6, 7] (by decide) rfl ?_
        show J p l e rm_P_draw s m args below meth cd D vwCl A s.heap 5 0 0 Q [(p0, .inr (3, [.ref p1, .ref p2, .ref p3])), (p1, .inl (cA, 20, .inl (slT X L (i + 1)))), (p2, .inl (cA, 10, .inl (ttT X L (i + 1)))), (p3, .inl (cA, 10, .inl (smT X L (i + 1)))), (o0, .inr (2, [.ref o1, .int (nI L.length)])), (o1, .inl (cA, 80, .inl g)), (a0, .inr (0, [.ref a1, .ref a2, .ref a3, .ref a4, .ref a5, .int (nI n)])), (a1, .inl (cA, 80, .inl (X 0))), (a2, .inl (cA, 80, .inl (X 1))), (a3, .inl (cA, 80, .inl (X 2))), (a4, .inl (cA, 80, .inl (X 3))), (a5, .inl (cA, 80, .inl (X 4)))] [(4, .int (nI (L.getD i 0))), (0, .ref p0), (1, .ref a0), (2, .ref o0), (3, .int (nI i))] 67 []
        refine j_iinc (v := nI (i + 1)) (lv' := [(3, .int (nI (i + 1))), (4, .int (nI (L.getD i 0))), (0, .ref p0), (1, .ref a0), (2, .ref o0)]) F d_P_draw_67 4 rfl (jn_inc i) (by decide) rfl ?_
        refine j_goto (tgt := 26) F d_P_draw_70 (by decide) ?_
        refine j_lv (lv' := [(0, .ref p0), (1, .ref a0), (2, .ref o0), (3, .int (nI (i + 1)))]) [2, 3, 4, 0] rfl ?_
        exact ih26 (i + 1) (by omega) (by omega)
  refine j_lv (lv' := [(0, .ref p0), (1, .ref a0), (2, .ref o0), (3, .int (nI 0))]) [1, 2, 3, 0] rfl ?_
  exact loop26 (L.length + 1) 0 (by omega) (by omega)

def rm_P_differencesFrom : Room := { frames := 0, cells := 0, slots := 0, locals := 0 }
set_option maxHeartbeats 4000000 in
set_option maxRecDepth 100000 in
theorem ct_P_differencesFrom (l : Launch) (D : va_G) (cA : ClassId) (p0 p1 p2 p3 : Nat) (sl tt sm : Nat → Int32) (r0 r1 r2 r3 : Nat) (sl2 tt2 sm2 : Nat → Int32) : Ci (S := Unit) l y_P_differencesFrom (Cond.code y_P_differencesFrom c_P_differencesFrom 4 (some .int) :: WD) rm_P_differencesFrom D vwCl [(cA, .int)] nws [.ref p0, .ref r0] [(p0, .inr (3, [.ref p1, .ref p2, .ref p3])), (p1, .inl (cA, 20, .inl sl)), (p2, .inl (cA, 10, .inl tt)), (p3, .inl (cA, 10, .inl sm)), (r0, .inr (3, [.ref r1, .ref r2, .ref r3])), (r1, .inl (cA, 20, .inl sl2)), (r2, .inl (cA, 10, .inl tt2)), (r3, .inl (cA, 10, .inl sm2))] 0 0 (fun r _ => r = nI (cntB (difS sl sl2) 20 + cntB (difD tt tt2 sm sm2) 10)) (fun _ => [(p0, .inr (3, [.ref p1, .ref p2, .ref p3])), (p1, .inl (cA, 20, .inl sl)), (p2, .inl (cA, 10, .inl tt)), (p3, .inl (cA, 10, .inl sm)), (r0, .inr (3, [.ref r1, .ref r2, .ref r3])), (r1, .inl (cA, 20, .inl sl2)), (r2, .inl (cA, 10, .inl tt2)), (r3, .inl (cA, 10, .inl sm2))]) := by
  refine Ci.of (cc := c_P_differencesFrom) (nL := 4) (lv := [(0, .ref p0), (1, .ref r0)]) (by decide) rfl (Nat.le_of_ble_eq_true rfl) rfl ?_
  intro p e s m args below meth cd A Q F hK hN hA ret
  refine j_iconst (v := nI 0) F d_P_differencesFrom_0 (by decide) ?_
  refine j_istoren (lv' := [(2, .int (nI 0)), (0, .ref p0), (1, .ref r0)]) F d_P_differencesFrom_1 rfl (by decide) rfl ?_
  refine j_iconst (v := nI 0) F d_P_differencesFrom_2 (by decide) ?_
  refine j_istoren (lv' := [(3, .int (nI 0)), (2, .int (nI 0)), (0, .ref p0), (1, .ref r0)]) F d_P_differencesFrom_3 rfl (by decide) rfl ?_
  have loop4 : ∀ (fuel : Nat) (i : Nat) (hfuel4 : 20 - i < fuel) (hi : i ≤ 20) (hc1 : cntB (difS sl sl2) i ≤ i), J p l e rm_P_differencesFrom s m args below meth cd D vwCl A s.heap 4 0 0 Q [(p0, .inr (3, [.ref p1, .ref p2, .ref p3])), (p1, .inl (cA, 20, .inl sl)), (p2, .inl (cA, 10, .inl tt)), (p3, .inl (cA, 10, .inl sm)), (r0, .inr (3, [.ref r1, .ref r2, .ref r3])), (r1, .inl (cA, 20, .inl sl2)), (r2, .inl (cA, 10, .inl tt2)), (r3, .inl (cA, 10, .inl sm2))] [(0, .ref p0), (1, .ref r0), (2, .int (nI (cntB (difS sl sl2) i))), (3, .int (nI i))] 4 [] := by
    intro fuel
    induction fuel with
    | zero => intro i hfuel; exact absurd hfuel (Nat.not_lt_zero _)
    | succ fuel ih4 =>
      intro i hfuel4 hi hc1
      refine j_iloadn F d_P_differencesFrom_4 3 rfl rfl ?_
      refine j_bipush (v := nI 20) F d_P_differencesFrom_5 (by decide) ?_
      refine j_ic_ge (tgt := 34) F d_P_differencesFrom_7 (by decide) (fun c_7 => ?_) (fun c_7 => ?_)
      · have c_7 : 20 ≤ i := (nI_leI (by omega) (by omega)).mp c_7
        have hin : i = 20 := by omega
        subst hin
        refine j_iconst (v := nI 0) F d_P_differencesFrom_34 (by decide) ?_
        refine j_istoren (lv' := [(3, .int (nI 0)), (0, .ref p0), (1, .ref r0), (2, .int (nI (cntB (difS sl sl2) 20)))]) F d_P_differencesFrom_35 rfl (by decide) rfl ?_
        have loop36 : ∀ (fuel : Nat) (j : Nat) (hfuel36 : 10 - j < fuel) (hj : j ≤ 10) (hc2 : cntB (difD tt tt2 sm sm2) j ≤ j), J p l e rm_P_differencesFrom s m args below meth cd D vwCl A s.heap 4 0 0 Q [(p0, .inr (3, [.ref p1, .ref p2, .ref p3])), (p1, .inl (cA, 20, .inl sl)), (p2, .inl (cA, 10, .inl tt)), (p3, .inl (cA, 10, .inl sm)), (r0, .inr (3, [.ref r1, .ref r2, .ref r3])), (r1, .inl (cA, 20, .inl sl2)), (r2, .inl (cA, 10, .inl tt2)), (r3, .inl (cA, 10, .inl sm2))] [(0, .ref p0), (1, .ref r0), (2, .int (nI (cntB (difS sl sl2) 20 + cntB (difD tt tt2 sm sm2) j))), (3, .int (nI j))] 36 [] := by
          intro fuel
          induction fuel with
          | zero => intro j hfuel; exact absurd hfuel (Nat.not_lt_zero _)
          | succ fuel ih36 =>
            intro j hfuel36 hj hc2
            refine j_iloadn F d_P_differencesFrom_36 3 rfl rfl ?_
            refine j_bipush (v := nI 10) F d_P_differencesFrom_37 (by decide) ?_
            refine j_ic_ge (tgt := 81) F d_P_differencesFrom_39 (by decide) (fun c_39 => ?_) (fun c_39 => ?_)
            · have c_39 : 10 ≤ j := (nI_leI (by omega) (by omega)).mp c_39
              have hin : j = 10 := by omega
              subst hin
              refine j_iloadn F d_P_differencesFrom_81 2 rfl rfl ?_
              exact ret _ _ _ _ _ _ () d_P_differencesFrom_82 rfl (by decide) (by decide) rfl rfl
            · have c_39 : ¬ 10 ≤ j := fun h => c_39 ((nI_leI (by omega) (by omega)).mpr h)
              refine j_aloadn F d_P_differencesFrom_42 0 rfl rfl ?_
              refine j_get (ci := 3) (v := .ref p2) F in_P hK 0 rfl rfl 1 (by decide) (wm k_90) rfl d_P_differencesFrom_43 ?_
              refine j_iloadn F d_P_differencesFrom_46 3 rfl rfl ?_
              refine j_iald (v := tt j) F hK 2 0 rfl rfl (by omega) (by decide) d_P_differencesFrom_47 rfl ?_
              refine j_aloadn F d_P_differencesFrom_48 1 rfl rfl ?_
              refine j_get (ci := 3) (v := .ref r2) F in_P hK 4 rfl rfl 1 (by decide) (wm k_90) rfl d_P_differencesFrom_49 ?_
              refine j_iloadn F d_P_differencesFrom_52 3 rfl rfl ?_
              refine j_iald (v := tt2 j) F hK 6 0 rfl rfl (by omega) (by decide) d_P_differencesFrom_53 rfl ?_
              refine j_ic_ne (tgt := 72) F d_P_differencesFrom_54 (by decide) (fun c_54 => ?_) (fun c_54 => ?_)
              · refine j_iinc (v := nI (cntB (difS sl sl2) 20 + cntB (difD tt tt2 sm sm2) (j + 1))) (lv' := [(2, .int (nI (cntB (difS sl sl2) 20 + cntB (difD tt tt2 sm sm2) (j + 1)))), (0, .ref p0), (1, .ref r0), (3, .int (nI j))]) F d_P_differencesFrom_72 2 rfl (by rw [cntB_t (p := difD tt tt2 sm sm2) (show (!(decide (tt j = tt2 j) && decide (sm j = sm2 j))) = true by rw [decide_eq_false c_54]; rfl), jn_inc, Nat.add_assoc]) (by decide) rfl ?_
                refine j_iinc (v := nI (j + 1)) (lv' := [(3, .int (nI (j + 1))), (2, .int (nI (cntB (difS sl sl2) 20 + cntB (difD tt tt2 sm sm2) (j + 1)))), (0, .ref p0), (1, .ref r0)]) F d_P_differencesFrom_75 3 rfl (jn_inc j) (by decide) rfl ?_
                refine j_goto (tgt := 36) F d_P_differencesFrom_78 (by decide) ?_
                refine j_lv (lv' := [(0, .ref p0), (1, .ref r0), (2, .int (nI (cntB (difS sl sl2) 20 + cntB (difD tt tt2 sm sm2) (j + 1)))), (3, .int (nI (j + 1)))]) [2, 3, 1, 0] rfl ?_
                exact ih36 (j + 1) (by omega) (by omega) (cntB_le _ _)
              · refine j_aloadn F d_P_differencesFrom_57 0 rfl rfl ?_
                refine j_get (ci := 3) (v := .ref p3) F in_P hK 0 rfl rfl 2 (by decide) (wm k_92) rfl d_P_differencesFrom_58 ?_
                refine j_iloadn F d_P_differencesFrom_61 3 rfl rfl ?_
                refine j_iald (v := sm j) F hK 3 0 rfl rfl (by omega) (by decide) d_P_differencesFrom_62 rfl ?_
                refine j_aloadn F d_P_differencesFrom_63 1 rfl rfl ?_
                refine j_get (ci := 3) (v := .ref r3) F in_P hK 4 rfl rfl 2 (by decide) (wm k_92) rfl d_P_differencesFrom_64 ?_
                refine j_iloadn F d_P_differencesFrom_67 3 rfl rfl ?_
                refine j_iald (v := sm2 j) F hK 7 0 rfl rfl (by omega) (by decide) d_P_differencesFrom_68 rfl ?_
                refine j_ic_eq (tgt := 75) F d_P_differencesFrom_69 (by decide) (fun c_69 => ?_) (fun c_69 => ?_)
                · rw [← cntB_f (p := difD tt tt2 sm sm2) (show (!(decide (tt j = tt2 j) && decide (sm j = sm2 j))) = false by rw [decide_eq_true c_54, decide_eq_true c_69]; rfl)]
                  refine j_iinc (v := nI (j + 1)) (lv' := [(3, .int (nI (j + 1))), (0, .ref p0), (1, .ref r0), (2, .int (nI (cntB (difS sl sl2) 20 + cntB (difD tt tt2 sm sm2) (j + 1))))]) F d_P_differencesFrom_75 3 rfl (jn_inc j) (by decide) rfl ?_
                  refine j_goto (tgt := 36) F d_P_differencesFrom_78 (by decide) ?_
                  refine j_lv (lv' := [(0, .ref p0), (1, .ref r0), (2, .int (nI (cntB (difS sl sl2) 20 + cntB (difD tt tt2 sm sm2) (j + 1)))), (3, .int (nI (j + 1)))]) [1, 2, 3, 0] rfl ?_
                  exact ih36 (j + 1) (by omega) (by omega) (cntB_le _ _)
                · refine j_iinc (v := nI (cntB (difS sl sl2) 20 + cntB (difD tt tt2 sm sm2) (j + 1))) (lv' := [(2, .int (nI (cntB (difS sl sl2) 20 + cntB (difD tt tt2 sm sm2) (j + 1)))), (0, .ref p0), (1, .ref r0), (3, .int (nI j))]) F d_P_differencesFrom_72 2 rfl (by rw [cntB_t (p := difD tt tt2 sm sm2) (show (!(decide (tt j = tt2 j) && decide (sm j = sm2 j))) = true by rw [decide_eq_false c_69, Bool.and_false]; rfl), jn_inc, Nat.add_assoc]) (by decide) rfl ?_
                  refine j_iinc (v := nI (j + 1)) (lv' := [(3, .int (nI (j + 1))), (2, .int (nI (cntB (difS sl sl2) 20 + cntB (difD tt tt2 sm sm2) (j + 1)))), (0, .ref p0), (1, .ref r0)]) F d_P_differencesFrom_75 3 rfl (jn_inc j) (by decide) rfl ?_
                  refine j_goto (tgt := 36) F d_P_differencesFrom_78 (by decide) ?_
                  refine j_lv (lv' := [(0, .ref p0), (1, .ref r0), (2, .int (nI (cntB (difS sl sl2) 20 + cntB (difD tt tt2 sm sm2) (j + 1)))), (3, .int (nI (j + 1)))]) [2, 3, 1, 0] rfl ?_
                  exact ih36 (j + 1) (by omega) (by omega) (cntB_le _ _)
        refine j_lv (lv' := [(0, .ref p0), (1, .ref r0), (2, .int (nI (cntB (difS sl sl2) 20))), (3, .int (nI 0))]) [1, 2, 3, 0] rfl ?_
        exact loop36 (10 + 1) 0 (by omega) (by omega) (cntB_le _ _)
      · have c_7 : ¬ 20 ≤ i := fun h => c_7 ((nI_leI (by omega) (by omega)).mpr h)
        refine j_aloadn F d_P_differencesFrom_10 0 rfl rfl ?_
        refine j_get (ci := 3) (v := .ref p1) F in_P hK 0 rfl rfl 0 (by decide) (wm k_87) rfl d_P_differencesFrom_11 ?_
        refine j_iloadn F d_P_differencesFrom_14 3 rfl rfl ?_
        refine j_iald (v := sl i) F hK 1 0 rfl rfl (by omega) (by decide) d_P_differencesFrom_15 rfl ?_
        refine j_aloadn F d_P_differencesFrom_16 1 rfl rfl ?_
        refine j_get (ci := 3) (v := .ref r1) F in_P hK 4 rfl rfl 0 (by decide) (wm k_87) rfl d_P_differencesFrom_17 ?_
        refine j_iloadn F d_P_differencesFrom_20 3 rfl rfl ?_
        refine j_iald (v := sl2 i) F hK 5 0 rfl rfl (by omega) (by decide) d_P_differencesFrom_21 rfl ?_
        refine j_ic_eq (tgt := 28) F d_P_differencesFrom_22 (by decide) (fun c_22 => ?_) (fun c_22 => ?_)
        · rw [← cntB_f (p := difS sl sl2) (show (!decide (sl i = sl2 i)) = false by rw [decide_eq_true c_22]; rfl)]
          refine j_iinc (v := nI (i + 1)) (lv' := [(3, .int (nI (i + 1))), (0, .ref p0), (1, .ref r0), (2, .int (nI (cntB (difS sl sl2) (i + 1))))]) F d_P_differencesFrom_28 3 rfl (jn_inc i) (by decide) rfl ?_
          refine j_goto (tgt := 4) F d_P_differencesFrom_31 (by decide) ?_
          refine j_lv (lv' := [(0, .ref p0), (1, .ref r0), (2, .int (nI (cntB (difS sl sl2) (i + 1)))), (3, .int (nI (i + 1)))]) [1, 2, 3, 0] rfl ?_
          exact ih4 (i + 1) (by omega) (by omega) (cntB_le _ _)
        · refine j_iinc (v := nI (cntB (difS sl sl2) (i + 1))) (lv' := [(2, .int (nI (cntB (difS sl sl2) (i + 1)))), (0, .ref p0), (1, .ref r0), (3, .int (nI i))]) F d_P_differencesFrom_25 2 rfl (by rw [cntB_t (p := difS sl sl2) (show (!decide (sl i = sl2 i)) = true by rw [decide_eq_false c_22]; rfl), jn_inc]) (by decide) rfl ?_
          refine j_iinc (v := nI (i + 1)) (lv' := [(3, .int (nI (i + 1))), (2, .int (nI (cntB (difS sl sl2) (i + 1)))), (0, .ref p0), (1, .ref r0)]) F d_P_differencesFrom_28 3 rfl (jn_inc i) (by decide) rfl ?_
          refine j_goto (tgt := 4) F d_P_differencesFrom_31 (by decide) ?_
          refine j_lv (lv' := [(0, .ref p0), (1, .ref r0), (2, .int (nI (cntB (difS sl sl2) (i + 1)))), (3, .int (nI (i + 1)))]) [2, 3, 1, 0] rfl ?_
          exact ih4 (i + 1) (by omega) (by omega) (cntB_le _ _)
  refine j_lv (lv' := [(0, .ref p0), (1, .ref r0), (2, .int (nI 0)), (3, .int (nI 0))]) [2, 3, 1, 0] rfl ?_
  exact loop4 (20 + 1) 0 (by omega) (by omega) (cntB_le _ _)
