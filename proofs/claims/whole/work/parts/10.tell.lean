theorem has_nat {n : Nat} {a : Int32} (hn : n < 2147483648) (h : hasB n a = true) : ∃ j, j < n ∧ a = nI j := by
  unfold hasB at h
  rw [Bool.and_eq_true, decide_eq_true_iff, decide_eq_true_iff] at h
  obtain ⟨h1, h2⟩ := h
  rw [jn_le, nI_toInt (by decide)] at h1
  rw [jn_lt, nI_toInt hn] at h2
  exact ⟨a.toInt.toNat, by omega, jn_of (by omega) (by omega)⟩

def rm_A_canTell : Room := { frames := 1, cells := 0, slots := 0, locals := 22 }
set_option maxHeartbeats 4000000 in
set_option maxRecDepth 100000 in
theorem ct_A_canTell (l : Launch) (D : va_G) (cA : ClassId) (a0 a1 a2 a3 a4 a5 : Nat) (X : AF) (n : Nat) (hn : n ≤ 80) (kd a b : Int32) : Ci (S := Unit) l y_A_canTell (Cond.code y_A_canTell c_A_canTell 4 (some .boolean) :: WD) rm_A_canTell D vwCl [(cA, .int)] nws [.ref a0, .int kd, .int a, .int b] [(a0, .inr (0, [.ref a1, .ref a2, .ref a3, .ref a4, .ref a5, .int (nI n)])), (a1, .inl (cA, 80, .inl (X 0))), (a2, .inl (cA, 80, .inl (X 1))), (a3, .inl (cA, 80, .inl (X 2))), (a4, .inl (cA, 80, .inl (X 3))), (a5, .inl (cA, 80, .inl (X 4)))] 0 0 (fun r _ => r = bI (tellB X n kd a b)) (fun _ => [(a0, .inr (0, [.ref a1, .ref a2, .ref a3, .ref a4, .ref a5, .int (nI n)])), (a1, .inl (cA, 80, .inl (X 0))), (a2, .inl (cA, 80, .inl (X 1))), (a3, .inl (cA, 80, .inl (X 2))), (a4, .inl (cA, 80, .inl (X 3))), (a5, .inl (cA, 80, .inl (X 4)))]) := by
  refine Ci.of (cc := c_A_canTell) (nL := 4) (lv := [(0, .ref a0), (1, .int kd), (2, .int a), (3, .int b)]) (by decide) rfl (Nat.le_of_ble_eq_true rfl) rfl ?_
  intro p e s m args below meth cd A Q F hK hN hA ret
  refine j_iloadn F d_A_canTell_0 1 rfl rfl ?_
  have sw := jn_sw5 kd
  rcases sw with hz | hz | hz | hz | hz | hz | hz
  · refine j_tabIn (tgt := 40) F d_A_canTell_1 0 hz.1 (by decide) (by decide) rfl (by decide) ?_
    refine j_iloadn F d_A_canTell_40 2 rfl rfl ?_
    refine j_iconst (v := nI 0) F d_A_canTell_41 (by decide) ?_
    refine j_bipush (v := nI 19) F d_A_canTell_42 (by decide) ?_
    refine j_goi (wc := []) (wr := [(a0, .inr (0, [.ref a1, .ref a2, .ref a3, .ref a4, .ref a5, .int (nI n)])), (a1, .inl (cA, 80, .inl (X 0))), (a2, .inl (cA, 80, .inl (X 1))), (a3, .inl (cA, 80, .inl (X 2))), (a4, .inl (cA, 80, .inl (X 3))), (a5, .inl (cA, 80, .inl (X 4)))]) hA [] [0, 1, 2, 3, 4, 5] rfl rfl (by decide) (by decide) (fun H locs ls hP hD hl => va_runSN (As := [.int a, .int (nI 0), .int (nI 19)]) (rest := []) F (ct_X_isWithin l D cA a (nI 0) (nI 19) H.size) ⟨va_cnB 3 F.2.2.2.2 (gd k_172) rfl rfl rfl (hN _ n_177).1 (F.2.2.2.2 _ (wm k_1)) (by decide +kernel) ⟨by decide, by decide⟩, F.2.2.2.2 _ (wm k_171), trivial⟩ (pre_S hK hN hP hD [] rfl (by decide)) rfl rfl hl.1 rfl (lv_room (Nat.le_of_ble_eq_true rfl)) d_A_canTell_44 ⟨by decide, by decide⟩) (fun r44 u44 hw44 => ?_)
    subst hw44
    refine j_ws (ws' := [(a0, .inr (0, [.ref a1, .ref a2, .ref a3, .ref a4, .ref a5, .int (nI n)])), (a1, .inl (cA, 80, .inl (X 0))), (a2, .inl (cA, 80, .inl (X 1))), (a3, .inl (cA, 80, .inl (X 2))), (a4, .inl (cA, 80, .inl (X 3))), (a5, .inl (cA, 80, .inl (X 4)))]) [0, 1, 2, 3, 4, 5] (by decide) rfl ?_
    refine j_if_eq (tgt := 64) F d_A_canTell_47 (by decide) (fun c_47 => ?_) (fun c_47 => ?_)
    · refine j_iconst (v := nI 0) F d_A_canTell_64 (by decide) ?_
      exact ret _ _ _ _ _ _ () d_A_canTell_65 rfl (by decide) (by decide) rfl (bI_f (by rw [tell0 hz.2, bI_0 c_47]; rfl))
    · refine j_iloadn F d_A_canTell_50 3 rfl rfl ?_
      refine j_iconst (v := nI 0) F d_A_canTell_51 (by decide) ?_
      refine j_bipush (v := nI 99) F d_A_canTell_52 (by decide) ?_
      refine j_goi (wc := []) (wr := [(a0, .inr (0, [.ref a1, .ref a2, .ref a3, .ref a4, .ref a5, .int (nI n)])), (a1, .inl (cA, 80, .inl (X 0))), (a2, .inl (cA, 80, .inl (X 1))), (a3, .inl (cA, 80, .inl (X 2))), (a4, .inl (cA, 80, .inl (X 3))), (a5, .inl (cA, 80, .inl (X 4)))]) hA [] [0, 1, 2, 3, 4, 5] rfl rfl (by decide) (by decide) (fun H locs ls hP hD hl => va_runSN (As := [.int b, .int (nI 0), .int (nI 99)]) (rest := []) F (ct_X_isWithin l D cA b (nI 0) (nI 99) H.size) ⟨va_cnB 3 F.2.2.2.2 (gd k_172) rfl rfl rfl (hN _ n_177).1 (F.2.2.2.2 _ (wm k_1)) (by decide +kernel) ⟨by decide, by decide⟩, F.2.2.2.2 _ (wm k_171), trivial⟩ (pre_S hK hN hP hD [] rfl (by decide)) rfl rfl hl.1 rfl (lv_room (Nat.le_of_ble_eq_true rfl)) d_A_canTell_54 ⟨by decide, by decide⟩) (fun r54 u54 hw54 => ?_)
      subst hw54
      refine j_ws (ws' := [(a0, .inr (0, [.ref a1, .ref a2, .ref a3, .ref a4, .ref a5, .int (nI n)])), (a1, .inl (cA, 80, .inl (X 0))), (a2, .inl (cA, 80, .inl (X 1))), (a3, .inl (cA, 80, .inl (X 2))), (a4, .inl (cA, 80, .inl (X 3))), (a5, .inl (cA, 80, .inl (X 4)))]) [0, 1, 2, 3, 4, 5] (by decide) rfl ?_
      refine j_if_eq (tgt := 64) F d_A_canTell_57 (by decide) (fun c_57 => ?_) (fun c_57 => ?_)
      · refine j_iconst (v := nI 0) F d_A_canTell_64 (by decide) ?_
        exact ret _ _ _ _ _ _ () d_A_canTell_65 rfl (by decide) (by decide) rfl (bI_f (by rw [tell0 hz.2, bI_1 c_47, bI_0 c_57]; simp))
      · refine j_iconst (v := nI 1) F d_A_canTell_60 (by decide) ?_
        refine j_goto (tgt := 65) F d_A_canTell_61 (by decide) ?_
        exact ret _ _ _ _ _ _ () d_A_canTell_65 rfl (by decide) (by decide) rfl (bI_t (by rw [tell0 hz.2, bI_1 c_47, bI_1 c_57]; rfl))
  · refine j_tabIn (tgt := 66) F d_A_canTell_1 1 hz.1 (by decide) (by decide) rfl (by decide) ?_
    refine j_iloadn F d_A_canTell_66 2 rfl rfl ?_
    refine j_iconst (v := nI 0) F d_A_canTell_67 (by decide) ?_
    refine j_bipush (v := nI 19) F d_A_canTell_68 (by decide) ?_
    refine j_goi (wc := []) (wr := [(a0, .inr (0, [.ref a1, .ref a2, .ref a3, .ref a4, .ref a5, .int (nI n)])), (a1, .inl (cA, 80, .inl (X 0))), (a2, .inl (cA, 80, .inl (X 1))), (a3, .inl (cA, 80, .inl (X 2))), (a4, .inl (cA, 80, .inl (X 3))), (a5, .inl (cA, 80, .inl (X 4)))]) hA [] [0, 1, 2, 3, 4, 5] rfl rfl (by decide) (by decide) (fun H locs ls hP hD hl => va_runSN (As := [.int a, .int (nI 0), .int (nI 19)]) (rest := []) F (ct_X_isWithin l D cA a (nI 0) (nI 19) H.size) ⟨va_cnB 3 F.2.2.2.2 (gd k_172) rfl rfl rfl (hN _ n_177).1 (F.2.2.2.2 _ (wm k_1)) (by decide +kernel) ⟨by decide, by decide⟩, F.2.2.2.2 _ (wm k_171), trivial⟩ (pre_S hK hN hP hD [] rfl (by decide)) rfl rfl hl.1 rfl (lv_room (Nat.le_of_ble_eq_true rfl)) d_A_canTell_70 ⟨by decide, by decide⟩) (fun r70 u70 hw70 => ?_)
    subst hw70
    refine j_ws (ws' := [(a0, .inr (0, [.ref a1, .ref a2, .ref a3, .ref a4, .ref a5, .int (nI n)])), (a1, .inl (cA, 80, .inl (X 0))), (a2, .inl (cA, 80, .inl (X 1))), (a3, .inl (cA, 80, .inl (X 2))), (a4, .inl (cA, 80, .inl (X 3))), (a5, .inl (cA, 80, .inl (X 4)))]) [0, 1, 2, 3, 4, 5] (by decide) rfl ?_
    refine j_if_eq (tgt := 84) F d_A_canTell_73 (by decide) (fun c_73 => ?_) (fun c_73 => ?_)
    · refine j_iconst (v := nI 0) F d_A_canTell_84 (by decide) ?_
      exact ret _ _ _ _ _ _ () d_A_canTell_85 rfl (by decide) (by decide) rfl (bI_f (by rw [tell1 hz.2, bI_0 c_73]; rfl))
    · refine j_iloadn F d_A_canTell_76 3 rfl rfl ?_
      refine j_if_ne (tgt := 84) F d_A_canTell_77 (by decide) (fun c_77 => ?_) (fun c_77 => ?_)
      · refine j_iconst (v := nI 0) F d_A_canTell_84 (by decide) ?_
        exact ret _ _ _ _ _ _ () d_A_canTell_85 rfl (by decide) (by decide) rfl (bI_f (by rw [tell1 hz.2, bI_1 c_73, decide_eq_false c_77]; simp))
      · refine j_iconst (v := nI 1) F d_A_canTell_80 (by decide) ?_
        refine j_goto (tgt := 85) F d_A_canTell_81 (by decide) ?_
        exact ret _ _ _ _ _ _ () d_A_canTell_85 rfl (by decide) (by decide) rfl (bI_t (by rw [tell1 hz.2, bI_1 c_73, decide_eq_true c_77]; rfl))
  · refine j_tabIn (tgt := 86) F d_A_canTell_1 2 hz.1 (by decide) (by decide) rfl (by decide) ?_
    refine j_iloadn F d_A_canTell_86 2 rfl rfl ?_
    refine j_iconst (v := nI 0) F d_A_canTell_87 (by decide) ?_
    refine j_bipush (v := nI 9) F d_A_canTell_88 (by decide) ?_
    refine j_goi (wc := []) (wr := [(a0, .inr (0, [.ref a1, .ref a2, .ref a3, .ref a4, .ref a5, .int (nI n)])), (a1, .inl (cA, 80, .inl (X 0))), (a2, .inl (cA, 80, .inl (X 1))), (a3, .inl (cA, 80, .inl (X 2))), (a4, .inl (cA, 80, .inl (X 3))), (a5, .inl (cA, 80, .inl (X 4)))]) hA [] [0, 1, 2, 3, 4, 5] rfl rfl (by decide) (by decide) (fun H locs ls hP hD hl => va_runSN (As := [.int a, .int (nI 0), .int (nI 9)]) (rest := []) F (ct_X_isWithin l D cA a (nI 0) (nI 9) H.size) ⟨va_cnB 3 F.2.2.2.2 (gd k_172) rfl rfl rfl (hN _ n_177).1 (F.2.2.2.2 _ (wm k_1)) (by decide +kernel) ⟨by decide, by decide⟩, F.2.2.2.2 _ (wm k_171), trivial⟩ (pre_S hK hN hP hD [] rfl (by decide)) rfl rfl hl.1 rfl (lv_room (Nat.le_of_ble_eq_true rfl)) d_A_canTell_90 ⟨by decide, by decide⟩) (fun r90 u90 hw90 => ?_)
    subst hw90
    refine j_ws (ws' := [(a0, .inr (0, [.ref a1, .ref a2, .ref a3, .ref a4, .ref a5, .int (nI n)])), (a1, .inl (cA, 80, .inl (X 0))), (a2, .inl (cA, 80, .inl (X 1))), (a3, .inl (cA, 80, .inl (X 2))), (a4, .inl (cA, 80, .inl (X 3))), (a5, .inl (cA, 80, .inl (X 4)))]) [0, 1, 2, 3, 4, 5] (by decide) rfl ?_
    refine j_if_eq (tgt := 109) F d_A_canTell_93 (by decide) (fun c_93 => ?_) (fun c_93 => ?_)
    · refine j_iconst (v := nI 0) F d_A_canTell_109 (by decide) ?_
      exact ret _ _ _ _ _ _ () d_A_canTell_110 rfl (by decide) (by decide) rfl (bI_f (by rw [tell2 hz.2, bI_0 c_93]; rfl))
    · refine j_iloadn F d_A_canTell_96 3 rfl rfl ?_
      refine j_iconst (v := nI 0) F d_A_canTell_97 (by decide) ?_
      refine j_iconst (v := nI 5) F d_A_canTell_98 (by decide) ?_
      refine j_goi (wc := []) (wr := [(a0, .inr (0, [.ref a1, .ref a2, .ref a3, .ref a4, .ref a5, .int (nI n)])), (a1, .inl (cA, 80, .inl (X 0))), (a2, .inl (cA, 80, .inl (X 1))), (a3, .inl (cA, 80, .inl (X 2))), (a4, .inl (cA, 80, .inl (X 3))), (a5, .inl (cA, 80, .inl (X 4)))]) hA [] [0, 1, 2, 3, 4, 5] rfl rfl (by decide) (by decide) (fun H locs ls hP hD hl => va_runSN (As := [.int b, .int (nI 0), .int (nI 5)]) (rest := []) F (ct_X_isWithin l D cA b (nI 0) (nI 5) H.size) ⟨va_cnB 3 F.2.2.2.2 (gd k_172) rfl rfl rfl (hN _ n_177).1 (F.2.2.2.2 _ (wm k_1)) (by decide +kernel) ⟨by decide, by decide⟩, F.2.2.2.2 _ (wm k_171), trivial⟩ (pre_S hK hN hP hD [] rfl (by decide)) rfl rfl hl.1 rfl (lv_room (Nat.le_of_ble_eq_true rfl)) d_A_canTell_99 ⟨by decide, by decide⟩) (fun r99 u99 hw99 => ?_)
      subst hw99
      refine j_ws (ws' := [(a0, .inr (0, [.ref a1, .ref a2, .ref a3, .ref a4, .ref a5, .int (nI n)])), (a1, .inl (cA, 80, .inl (X 0))), (a2, .inl (cA, 80, .inl (X 1))), (a3, .inl (cA, 80, .inl (X 2))), (a4, .inl (cA, 80, .inl (X 3))), (a5, .inl (cA, 80, .inl (X 4)))]) [0, 1, 2, 3, 4, 5] (by decide) rfl ?_
      refine j_if_eq (tgt := 109) F d_A_canTell_102 (by decide) (fun c_102 => ?_) (fun c_102 => ?_)
      · refine j_iconst (v := nI 0) F d_A_canTell_109 (by decide) ?_
        exact ret _ _ _ _ _ _ () d_A_canTell_110 rfl (by decide) (by decide) rfl (bI_f (by rw [tell2 hz.2, bI_1 c_93, bI_0 c_102]; simp))
      · refine j_iconst (v := nI 1) F d_A_canTell_105 (by decide) ?_
        refine j_goto (tgt := 110) F d_A_canTell_106 (by decide) ?_
        exact ret _ _ _ _ _ _ () d_A_canTell_110 rfl (by decide) (by decide) rfl (bI_t (by rw [tell2 hz.2, bI_1 c_93, bI_1 c_102]; rfl))
  · refine j_tabIn (tgt := 111) F d_A_canTell_1 3 hz.1 (by decide) (by decide) rfl (by decide) ?_
    refine j_iloadn F d_A_canTell_111 2 rfl rfl ?_
    refine j_iconst (v := nI 0) F d_A_canTell_112 (by decide) ?_
    refine j_bipush (v := nI 9) F d_A_canTell_113 (by decide) ?_
    refine j_goi (wc := []) (wr := [(a0, .inr (0, [.ref a1, .ref a2, .ref a3, .ref a4, .ref a5, .int (nI n)])), (a1, .inl (cA, 80, .inl (X 0))), (a2, .inl (cA, 80, .inl (X 1))), (a3, .inl (cA, 80, .inl (X 2))), (a4, .inl (cA, 80, .inl (X 3))), (a5, .inl (cA, 80, .inl (X 4)))]) hA [] [0, 1, 2, 3, 4, 5] rfl rfl (by decide) (by decide) (fun H locs ls hP hD hl => va_runSN (As := [.int a, .int (nI 0), .int (nI 9)]) (rest := []) F (ct_X_isWithin l D cA a (nI 0) (nI 9) H.size) ⟨va_cnB 3 F.2.2.2.2 (gd k_172) rfl rfl rfl (hN _ n_177).1 (F.2.2.2.2 _ (wm k_1)) (by decide +kernel) ⟨by decide, by decide⟩, F.2.2.2.2 _ (wm k_171), trivial⟩ (pre_S hK hN hP hD [] rfl (by decide)) rfl rfl hl.1 rfl (lv_room (Nat.le_of_ble_eq_true rfl)) d_A_canTell_115 ⟨by decide, by decide⟩) (fun r115 u115 hw115 => ?_)
    subst hw115
    refine j_ws (ws' := [(a0, .inr (0, [.ref a1, .ref a2, .ref a3, .ref a4, .ref a5, .int (nI n)])), (a1, .inl (cA, 80, .inl (X 0))), (a2, .inl (cA, 80, .inl (X 1))), (a3, .inl (cA, 80, .inl (X 2))), (a4, .inl (cA, 80, .inl (X 3))), (a5, .inl (cA, 80, .inl (X 4)))]) [0, 1, 2, 3, 4, 5] (by decide) rfl ?_
    refine j_if_eq (tgt := 136) F d_A_canTell_118 (by decide) (fun c_118 => ?_) (fun c_118 => ?_)
    · refine j_iconst (v := nI 0) F d_A_canTell_136 (by decide) ?_
      exact ret _ _ _ _ _ _ () d_A_canTell_137 rfl (by decide) (by decide) rfl (bI_f (by rw [tell3 hz.2, bI_0 c_118]; rfl))
    · refine j_iloadn F d_A_canTell_121 3 rfl rfl ?_
      refine j_ldc (v := (-1000000)) F (wm k_178) d_A_canTell_122 ?_
      refine j_ldc (v := 1000000) F (wm k_179) d_A_canTell_124 ?_
      refine j_goi (wc := []) (wr := [(a0, .inr (0, [.ref a1, .ref a2, .ref a3, .ref a4, .ref a5, .int (nI n)])), (a1, .inl (cA, 80, .inl (X 0))), (a2, .inl (cA, 80, .inl (X 1))), (a3, .inl (cA, 80, .inl (X 2))), (a4, .inl (cA, 80, .inl (X 3))), (a5, .inl (cA, 80, .inl (X 4)))]) hA [] [0, 1, 2, 3, 4, 5] rfl rfl (by decide) (by decide) (fun H locs ls hP hD hl => va_runSN (As := [.int b, .int (-1000000), .int 1000000]) (rest := []) F (ct_X_isWithin l D cA b (-1000000) 1000000 H.size) ⟨va_cnB 3 F.2.2.2.2 (gd k_172) rfl rfl rfl (hN _ n_177).1 (F.2.2.2.2 _ (wm k_1)) (by decide +kernel) ⟨by decide, by decide⟩, F.2.2.2.2 _ (wm k_171), trivial⟩ (pre_S hK hN hP hD [] rfl (by decide)) rfl rfl hl.1 rfl (lv_room (Nat.le_of_ble_eq_true rfl)) d_A_canTell_126 ⟨by decide, by decide⟩) (fun r126 u126 hw126 => ?_)
      subst hw126
      refine j_ws (ws' := [(a0, .inr (0, [.ref a1, .ref a2, .ref a3, .ref a4, .ref a5, .int (nI n)])), (a1, .inl (cA, 80, .inl (X 0))), (a2, .inl (cA, 80, .inl (X 1))), (a3, .inl (cA, 80, .inl (X 2))), (a4, .inl (cA, 80, .inl (X 3))), (a5, .inl (cA, 80, .inl (X 4)))]) [0, 1, 2, 3, 4, 5] (by decide) rfl ?_
      refine j_if_eq (tgt := 136) F d_A_canTell_129 (by decide) (fun c_129 => ?_) (fun c_129 => ?_)
      · refine j_iconst (v := nI 0) F d_A_canTell_136 (by decide) ?_
        exact ret _ _ _ _ _ _ () d_A_canTell_137 rfl (by decide) (by decide) rfl (bI_f (by rw [tell3 hz.2, bI_1 c_118, bI_0 c_129]; simp))
      · refine j_iconst (v := nI 1) F d_A_canTell_132 (by decide) ?_
        refine j_goto (tgt := 137) F d_A_canTell_133 (by decide) ?_
        exact ret _ _ _ _ _ _ () d_A_canTell_137 rfl (by decide) (by decide) rfl (bI_t (by rw [tell3 hz.2, bI_1 c_118, bI_1 c_129]; rfl))
  · refine j_tabIn (tgt := 138) F d_A_canTell_1 4 hz.1 (by decide) (by decide) rfl (by decide) ?_
    refine j_iloadn F d_A_canTell_138 2 rfl rfl ?_
    refine j_iconst (v := nI 0) F d_A_canTell_139 (by decide) ?_
    refine j_bipush (v := nI 9) F d_A_canTell_140 (by decide) ?_
    refine j_goi (wc := []) (wr := [(a0, .inr (0, [.ref a1, .ref a2, .ref a3, .ref a4, .ref a5, .int (nI n)])), (a1, .inl (cA, 80, .inl (X 0))), (a2, .inl (cA, 80, .inl (X 1))), (a3, .inl (cA, 80, .inl (X 2))), (a4, .inl (cA, 80, .inl (X 3))), (a5, .inl (cA, 80, .inl (X 4)))]) hA [] [0, 1, 2, 3, 4, 5] rfl rfl (by decide) (by decide) (fun H locs ls hP hD hl => va_runSN (As := [.int a, .int (nI 0), .int (nI 9)]) (rest := []) F (ct_X_isWithin l D cA a (nI 0) (nI 9) H.size) ⟨va_cnB 3 F.2.2.2.2 (gd k_172) rfl rfl rfl (hN _ n_177).1 (F.2.2.2.2 _ (wm k_1)) (by decide +kernel) ⟨by decide, by decide⟩, F.2.2.2.2 _ (wm k_171), trivial⟩ (pre_S hK hN hP hD [] rfl (by decide)) rfl rfl hl.1 rfl (lv_room (Nat.le_of_ble_eq_true rfl)) d_A_canTell_142 ⟨by decide, by decide⟩) (fun r142 u142 hw142 => ?_)
    subst hw142
    refine j_ws (ws' := [(a0, .inr (0, [.ref a1, .ref a2, .ref a3, .ref a4, .ref a5, .int (nI n)])), (a1, .inl (cA, 80, .inl (X 0))), (a2, .inl (cA, 80, .inl (X 1))), (a3, .inl (cA, 80, .inl (X 2))), (a4, .inl (cA, 80, .inl (X 3))), (a5, .inl (cA, 80, .inl (X 4)))]) [0, 1, 2, 3, 4, 5] (by decide) rfl ?_
    refine j_if_eq (tgt := 163) F d_A_canTell_145 (by decide) (fun c_145 => ?_) (fun c_145 => ?_)
    · refine j_iconst (v := nI 0) F d_A_canTell_163 (by decide) ?_
      exact ret _ _ _ _ _ _ () d_A_canTell_164 rfl (by decide) (by decide) rfl (bI_f (by rw [tell4 hz.2, bI_0 c_145]; rfl))
    · refine j_iloadn F d_A_canTell_148 3 rfl rfl ?_
      refine j_iconst (v := nI 1) F d_A_canTell_149 (by decide) ?_
      refine j_sipush (v := nI 1000) F d_A_canTell_150 (by decide) ?_
      refine j_goi (wc := []) (wr := [(a0, .inr (0, [.ref a1, .ref a2, .ref a3, .ref a4, .ref a5, .int (nI n)])), (a1, .inl (cA, 80, .inl (X 0))), (a2, .inl (cA, 80, .inl (X 1))), (a3, .inl (cA, 80, .inl (X 2))), (a4, .inl (cA, 80, .inl (X 3))), (a5, .inl (cA, 80, .inl (X 4)))]) hA [] [0, 1, 2, 3, 4, 5] rfl rfl (by decide) (by decide) (fun H locs ls hP hD hl => va_runSN (As := [.int b, .int (nI 1), .int (nI 1000)]) (rest := []) F (ct_X_isWithin l D cA b (nI 1) (nI 1000) H.size) ⟨va_cnB 3 F.2.2.2.2 (gd k_172) rfl rfl rfl (hN _ n_177).1 (F.2.2.2.2 _ (wm k_1)) (by decide +kernel) ⟨by decide, by decide⟩, F.2.2.2.2 _ (wm k_171), trivial⟩ (pre_S hK hN hP hD [] rfl (by decide)) rfl rfl hl.1 rfl (lv_room (Nat.le_of_ble_eq_true rfl)) d_A_canTell_153 ⟨by decide, by decide⟩) (fun r153 u153 hw153 => ?_)
      subst hw153
      refine j_ws (ws' := [(a0, .inr (0, [.ref a1, .ref a2, .ref a3, .ref a4, .ref a5, .int (nI n)])), (a1, .inl (cA, 80, .inl (X 0))), (a2, .inl (cA, 80, .inl (X 1))), (a3, .inl (cA, 80, .inl (X 2))), (a4, .inl (cA, 80, .inl (X 3))), (a5, .inl (cA, 80, .inl (X 4)))]) [0, 1, 2, 3, 4, 5] (by decide) rfl ?_
      refine j_if_eq (tgt := 163) F d_A_canTell_156 (by decide) (fun c_156 => ?_) (fun c_156 => ?_)
      · refine j_iconst (v := nI 0) F d_A_canTell_163 (by decide) ?_
        exact ret _ _ _ _ _ _ () d_A_canTell_164 rfl (by decide) (by decide) rfl (bI_f (by rw [tell4 hz.2, bI_1 c_145, bI_0 c_156]; simp))
      · refine j_iconst (v := nI 1) F d_A_canTell_159 (by decide) ?_
        refine j_goto (tgt := 164) F d_A_canTell_160 (by decide) ?_
        exact ret _ _ _ _ _ _ () d_A_canTell_164 rfl (by decide) (by decide) rfl (bI_t (by rw [tell4 hz.2, bI_1 c_145, bI_1 c_156]; rfl))
  · refine j_tabIn (tgt := 165) F d_A_canTell_1 5 hz.1 (by decide) (by decide) rfl (by decide) ?_
    refine j_aloadn F d_A_canTell_165 0 rfl rfl ?_
    refine j_iloadn F d_A_canTell_166 2 rfl rfl ?_
    refine j_goi (wc := [(a0, .inr (0, [.ref a1, .ref a2, .ref a3, .ref a4, .ref a5, .int (nI n)])), (a1, .inl (cA, 80, .inl (X 0))), (a2, .inl (cA, 80, .inl (X 1))), (a3, .inl (cA, 80, .inl (X 2))), (a4, .inl (cA, 80, .inl (X 3))), (a5, .inl (cA, 80, .inl (X 4)))]) (wr := []) hA [0, 1, 2, 3, 4, 5] [] rfl rfl (by decide) (by decide) (fun H locs ls hP hD hl => va_runV (As := [.int a]) (rest := []) F (ct_A_has l D cA a0 a1 a2 a3 a4 a5 X n (by omega) a H.size) ⟨callB_of 1 F.2.2.2.2 (gd k_183) rfl rfl rfl (F.2.2.2.2 _ (wm k_2)) (F.2.2.2.2 _ (wm k_180)) (by decide +kernel) ⟨by decide, by decide⟩, F.2.2.2.2 _ (wm k_182), F.2.2.2.2 _ (wm ks_2)⟩ (pre_V rfl hK hN hP hD [0, 1, 2, 3, 4, 5] rfl (by decide) 0 rfl rfl) rfl rfl hl.1 rfl (lv_room (Nat.le_of_ble_eq_true rfl)) d_A_canTell_167 ⟨by decide, by decide⟩) (fun r167 u167 hw167 => ?_)
    subst hw167
    refine j_ws (ws' := [(a0, .inr (0, [.ref a1, .ref a2, .ref a3, .ref a4, .ref a5, .int (nI n)])), (a1, .inl (cA, 80, .inl (X 0))), (a2, .inl (cA, 80, .inl (X 1))), (a3, .inl (cA, 80, .inl (X 2))), (a4, .inl (cA, 80, .inl (X 3))), (a5, .inl (cA, 80, .inl (X 4)))]) [0, 1, 2, 3, 4, 5] (by decide) rfl ?_
    refine j_if_eq (tgt := 191) F d_A_canTell_170 (by decide) (fun c_170 => ?_) (fun c_170 => ?_)
    · refine j_iconst (v := nI 0) F d_A_canTell_191 (by decide) ?_
      exact ret _ _ _ _ _ _ () d_A_canTell_192 rfl (by decide) (by decide) rfl (bI_f (by rw [tell5 hz.2, show (decide (nI 0 ≤ a) && decide (a < nI n)) = false from bI_0 c_170]; rfl))
    · have hb := bI_1 c_170
      obtain ⟨j, hj, rfl⟩ := has_nat (by omega) hb
      refine j_aloadn F d_A_canTell_173 0 rfl rfl ?_
      refine j_get (ci := 0) (v := .ref a1) F in_A hK 0 rfl rfl 0 (by decide) (wm k_30) rfl d_A_canTell_174 ?_
      refine j_iloadn F d_A_canTell_177 2 rfl rfl ?_
      refine j_iald (v := (X 0) j) F hK 1 0 rfl rfl (by omega) (by decide) d_A_canTell_178 rfl ?_
      refine j_iconst (v := nI 5) F d_A_canTell_179 (by decide) ?_
      refine j_ic_eq (tgt := 191) F d_A_canTell_180 (by decide) (fun c_180 => ?_) (fun c_180 => ?_)
      · refine j_iconst (v := nI 0) F d_A_canTell_191 (by decide) ?_
        exact ret _ _ _ _ _ _ () d_A_canTell_192 rfl (by decide) (by decide) rfl (bI_f (by rw [tell5 hz.2, show (decide (nI 0 ≤ nI j) && decide (nI j < nI n)) = true from hb, show (!decide (X 0 (nI j).toNatClampNeg = nI 5)) = false by rw [nI_clamp (by omega), decide_eq_true c_180]; rfl]; rfl))
      · refine j_iloadn F d_A_canTell_183 3 rfl rfl ?_
        refine j_if_ne (tgt := 191) F d_A_canTell_184 (by decide) (fun c_184 => ?_) (fun c_184 => ?_)
        · refine j_iconst (v := nI 0) F d_A_canTell_191 (by decide) ?_
          exact ret _ _ _ _ _ _ () d_A_canTell_192 rfl (by decide) (by decide) rfl (bI_f (by rw [tell5 hz.2, show (decide (nI 0 ≤ nI j) && decide (nI j < nI n)) = true from hb, show (!decide (X 0 (nI j).toNatClampNeg = nI 5)) = true by rw [nI_clamp (by omega), decide_eq_false c_180]; rfl, decide_eq_false c_184]; rfl))
        · refine j_iconst (v := nI 1) F d_A_canTell_187 (by decide) ?_
          refine j_goto (tgt := 192) F d_A_canTell_188 (by decide) ?_
          exact ret _ _ _ _ _ _ () d_A_canTell_192 rfl (by decide) (by decide) rfl (bI_t (by rw [tell5 hz.2, show (decide (nI 0 ≤ nI j) && decide (nI j < nI n)) = true from hb, show (!decide (X 0 (nI j).toNatClampNeg = nI 5)) = true by rw [nI_clamp (by omega), decide_eq_false c_180]; rfl, decide_eq_true c_184]; rfl))
  · refine j_tabOut (tgt := 193) F d_A_canTell_1 hz.1 (by decide) ?_
    refine j_iconst (v := nI 0) F d_A_canTell_193 (by decide) ?_
    exact ret _ _ _ _ _ _ () d_A_canTell_194 rfl (by decide) (by decide) rfl (bI_f (tellN hz.2))

def rm_A_append : Room := { frames := 1, cells := 0, slots := 0, locals := 20 }
set_option maxHeartbeats 4000000 in
set_option maxRecDepth 100000 in
theorem ct_A_append (l : Launch) (D : va_G) (cA : ClassId) (a0 a1 a2 a3 a4 a5 : Nat) (X : AF) (n : Nat) (hn : n < 80) (kd a b v k : Int32) : Ci (S := Unit) l y_A_append (Cond.code y_A_append c_A_append 7 (some .int) :: WD) rm_A_append D vwCl [(cA, .int)] nws [.ref a0, .int kd, .int a, .int b, .int v, .int k] [(a0, .inr (0, [.ref a1, .ref a2, .ref a3, .ref a4, .ref a5, .int (nI n)])), (a1, .inl (cA, 80, .inl (X 0))), (a2, .inl (cA, 80, .inl (X 1))), (a3, .inl (cA, 80, .inl (X 2))), (a4, .inl (cA, 80, .inl (X 3))), (a5, .inl (cA, 80, .inl (X 4)))] 0 0 (fun r _ => r = nI n) (fun _ => [(a0, .inr (0, [.ref a1, .ref a2, .ref a3, .ref a4, .ref a5, .int (nI (n + 1))])), (a1, .inl (cA, 80, .inl ((apnd X n kd a b v k) 0))), (a2, .inl (cA, 80, .inl ((apnd X n kd a b v k) 1))), (a3, .inl (cA, 80, .inl ((apnd X n kd a b v k) 2))), (a4, .inl (cA, 80, .inl ((apnd X n kd a b v k) 3))), (a5, .inl (cA, 80, .inl ((apnd X n kd a b v k) 4)))]) := by
  refine Ci.of (cc := c_A_append) (nL := 7) (lv := [(0, .ref a0), (1, .int kd), (2, .int a), (3, .int b), (4, .int v), (5, .int k)]) (by decide) rfl (Nat.le_of_ble_eq_true rfl) rfl ?_
  intro p e s m args below meth cd A Q F hK hN hA ret
  refine j_aloadn F d_A_append_0 0 rfl rfl ?_
  refine j_goi (wc := [(a0, .inr (0, [.ref a1, .ref a2, .ref a3, .ref a4, .ref a5, .int (nI n)])), (a1, .inl (cA, 80, .inl (X 0))), (a2, .inl (cA, 80, .inl (X 1))), (a3, .inl (cA, 80, .inl (X 2))), (a4, .inl (cA, 80, .inl (X 3))), (a5, .inl (cA, 80, .inl (X 4)))]) (wr := []) hA [0, 1, 2, 3, 4, 5] [] rfl rfl (by decide) (by decide) (fun H locs ls hP hD hl => va_runV (As := []) (rest := []) F (ct_A_isFull l D cA a0 a1 a2 a3 a4 a5 X n (by omega) H.size) ⟨callB_of 0 F.2.2.2.2 (gd k_166) rfl rfl rfl (F.2.2.2.2 _ (wm k_2)) (F.2.2.2.2 _ (wm k_188)) (by decide +kernel) ⟨by decide, by decide⟩, F.2.2.2.2 _ (wm k_165), F.2.2.2.2 _ (wm ks_0)⟩ (pre_V rfl hK hN hP hD [0, 1, 2, 3, 4, 5] rfl (by decide) 0 rfl rfl) rfl rfl hl.1 rfl (lv_room (Nat.le_of_ble_eq_true rfl)) d_A_append_1 ⟨by decide, by decide⟩) (fun r1 u1 hw1 => ?_)
  subst hw1
  refine j_ws (ws' := [(a0, .inr (0, [.ref a1, .ref a2, .ref a3, .ref a4, .ref a5, .int (nI n)])), (a1, .inl (cA, 80, .inl (X 0))), (a2, .inl (cA, 80, .inl (X 1))), (a3, .inl (cA, 80, .inl (X 2))), (a4, .inl (cA, 80, .inl (X 3))), (a5, .inl (cA, 80, .inl (X 4)))]) [0, 1, 2, 3, 4, 5] (by decide) rfl ?_
  refine j_if_eq (tgt := 9) F d_A_append_4 (by decide) (fun c_4 => ?_) (fun c_4 => ?_)
  · refine j_aloadn F d_A_append_9 0 rfl rfl ?_
    refine j_get (ci := 0) (v := .int (nI n)) F in_A hK 0 rfl rfl 5 (by decide) (wm k_47) rfl d_A_append_10 ?_
    refine j_istore (lv' := [(6, .int (nI n)), (0, .ref a0), (1, .int kd), (2, .int a), (3, .int b), (4, .int v), (5, .int k)]) F d_A_append_13 (by decide) rfl ?_
    refine j_aloadn F d_A_append_15 1 rfl rfl ?_
    refine j_get (ci := 0) (v := .ref a1) F in_A hK 0 rfl rfl 0 (by decide) (wm k_30) rfl d_A_append_16 ?_
    refine j_iload F d_A_append_19 0 rfl ?_
    refine j_iloadn F d_A_append_21 2 rfl rfl ?_
    refine j_iast (ws' := [(a0, .inr (0, [.ref a1, .ref a2, .ref a3, .ref a4, .ref a5, .int (nI n)])), (a1, .inl (cA, 80, .inl (upd (X 0) n kd))), (a2, .inl (cA, 80, .inl (X 1))), (a3, .inl (cA, 80, .inl (X 2))), (a4, .inl (cA, 80, .inl (X 3))), (a5, .inl (cA, 80, .inl (X 4)))]) F hK 1 0 rfl rfl (by omega) (by decide) d_A_append_22 rfl ?_
    refine j_aloadn F d_A_append_23 1 rfl rfl ?_
    refine j_get (ci := 0) (v := .ref a2) F in_A hK 0 rfl rfl 1 (by decide) (wm k_34) rfl d_A_append_24 ?_
    refine j_iload F d_A_append_27 0 rfl ?_
    refine j_iloadn F d_A_append_29 3 rfl rfl ?_
    refine j_iast (ws' := [(a0, .inr (0, [.ref a1, .ref a2, .ref a3, .ref a4, .ref a5, .int (nI n)])), (a1, .inl (cA, 80, .inl (upd (X 0) n kd))), (a2, .inl (cA, 80, .inl (upd (X 1) n a))), (a3, .inl (cA, 80, .inl (X 2))), (a4, .inl (cA, 80, .inl (X 3))), (a5, .inl (cA, 80, .inl (X 4)))]) F hK 2 0 rfl rfl (by omega) (by decide) d_A_append_30 rfl ?_
    refine j_aloadn F d_A_append_31 1 rfl rfl ?_
    refine j_get (ci := 0) (v := .ref a3) F in_A hK 0 rfl rfl 2 (by decide) (wm k_38) rfl d_A_append_32 ?_
    refine j_iload F d_A_append_35 0 rfl ?_
    refine j_iloadn F d_A_append_37 4 rfl rfl ?_
    refine j_iast (ws' := [(a0, .inr (0, [.ref a1, .ref a2, .ref a3, .ref a4, .ref a5, .int (nI n)])), (a1, .inl (cA, 80, .inl (upd (X 0) n kd))), (a2, .inl (cA, 80, .inl (upd (X 1) n a))), (a3, .inl (cA, 80, .inl (upd (X 2) n b))), (a4, .inl (cA, 80, .inl (X 3))), (a5, .inl (cA, 80, .inl (X 4)))]) F hK 3 0 rfl rfl (by omega) (by decide) d_A_append_38 rfl ?_
    refine j_aloadn F d_A_append_39 1 rfl rfl ?_
    refine j_get (ci := 0) (v := .ref a4) F in_A hK 0 rfl rfl 3 (by decide) (wm k_42) rfl d_A_append_40 ?_
    refine j_iload F d_A_append_43 0 rfl ?_
    refine j_iload F d_A_append_45 5 rfl ?_
    refine j_iast (ws' := [(a0, .inr (0, [.ref a1, .ref a2, .ref a3, .ref a4, .ref a5, .int (nI n)])), (a1, .inl (cA, 80, .inl (upd (X 0) n kd))), (a2, .inl (cA, 80, .inl (upd (X 1) n a))), (a3, .inl (cA, 80, .inl (upd (X 2) n b))), (a4, .inl (cA, 80, .inl (upd (X 3) n v))), (a5, .inl (cA, 80, .inl (X 4)))]) F hK 4 0 rfl rfl (by omega) (by decide) d_A_append_47 rfl ?_
    refine j_aloadn F d_A_append_48 1 rfl rfl ?_
    refine j_get (ci := 0) (v := .ref a5) F in_A hK 0 rfl rfl 4 (by decide) (wm k_45) rfl d_A_append_49 ?_
    refine j_iload F d_A_append_52 0 rfl ?_
    refine j_iload F d_A_append_54 6 rfl ?_
    refine j_iast (ws' := [(a0, .inr (0, [.ref a1, .ref a2, .ref a3, .ref a4, .ref a5, .int (nI n)])), (a1, .inl (cA, 80, .inl (upd (X 0) n kd))), (a2, .inl (cA, 80, .inl (upd (X 1) n a))), (a3, .inl (cA, 80, .inl (upd (X 2) n b))), (a4, .inl (cA, 80, .inl (upd (X 3) n v))), (a5, .inl (cA, 80, .inl (upd (X 4) n k)))]) F hK 5 0 rfl rfl (by omega) (by decide) d_A_append_56 rfl ?_
    refine j_aloadn F d_A_append_57 1 rfl rfl ?_
    refine j_iload F d_A_append_58 0 rfl ?_
    refine j_iconst (v := nI 1) F d_A_append_60 (by decide) ?_
    refine j_iadd (v := nI (n + 1)) F d_A_append_61 (nI_add _ _) ?_
    refine j_put (ci := 0) (v := .int (nI (n + 1))) (ty := .int) (ws' := [(a0, .inr (0, [.ref a1, .ref a2, .ref a3, .ref a4, .ref a5, .int (nI (n + 1))])), (a1, .inl (cA, 80, .inl (upd (X 0) n kd))), (a2, .inl (cA, 80, .inl (upd (X 1) n a))), (a3, .inl (cA, 80, .inl (upd (X 2) n b))), (a4, .inl (cA, 80, .inl (upd (X 3) n v))), (a5, .inl (cA, 80, .inl (upd (X 4) n k)))]) F in_A ty_A tk_A nm_A hK 0 rfl rfl 5 (by decide) (wm k_47) rfl (by decide +kernel) rfl rfl (Nat.le_of_ble_eq_true rfl) d_A_append_62 rfl ?_
    refine j_iload F d_A_append_65 0 rfl ?_
    exact ret _ _ _ _ _ _ () d_A_append_67 rfl (by decide) (by decide) rfl rfl
  · exact absurd (of_decide_eq_true (bI_1 c_4)) (by omega)
