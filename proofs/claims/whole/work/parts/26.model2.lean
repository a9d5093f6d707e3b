def rm_M_finds : Room := { frames := 3, cells := 0, slots := 0, locals := 73 }
set_option maxHeartbeats 4000000 in
set_option maxRecDepth 100000 in
theorem ct_M_finds (l : Launch) (D : va_G) (cA : ClassId) (m0 m1 m2 m3 m4 m5 m6 m7 m8 m9 m10 : Nat) (th now : Int32) (n : Nat) (rf : Int32) (X : AF) (sl tt sm hs lt : Nat → Int32) (hA0 : aok X n) (t k : Int32) : Cv (S := Unit) l y_M_finds (Cond.code y_M_finds c_M_finds 4 none :: WD) rm_M_finds D vwCl [(cA, .int)] nws [.ref m0, .int t, .int k] [(m0, .inr (6, [.int th, .int now, .int (nI n), .int rf, .ref m1, .ref m2, .ref m3, .ref m4, .ref m5, .ref m6, .ref m7, .ref m8, .ref m9, .ref m10])), (m1, .inl (cA, 80, .inl (X 0))), (m2, .inl (cA, 80, .inl (X 1))), (m3, .inl (cA, 80, .inl (X 2))), (m4, .inl (cA, 80, .inl (X 3))), (m5, .inl (cA, 80, .inl (X 4))), (m6, .inl (cA, 20, .inl sl)), (m7, .inl (cA, 10, .inl tt)), (m8, .inl (cA, 10, .inl sm)), (m9, .inl (cA, 10, .inl hs)), (m10, .inl (cA, 64, .inl lt))] 0 0 (fun _ => True) (fun _ => [(m0, .inr (6, [.int th, .int now, .int (nI n), .int rf, .ref m1, .ref m2, .ref m3, .ref m4, .ref m5, .ref m6, .ref m7, .ref m8, .ref m9, .ref m10])), (m1, .inl (cA, 80, .inl (X 0))), (m2, .inl (cA, 80, .inl (X 1))), (m3, .inl (cA, 80, .inl (X 2))), (m4, .inl (cA, 80, .inl (X 3))), (m5, .inl (cA, 80, .inl (X 4))), (m6, .inl (cA, 20, .inl (slP X n t k))), (m7, .inl (cA, 10, .inl (ttP X n t k))), (m8, .inl (cA, 10, .inl (smP X n t k))), (m9, .inl (cA, 10, .inl hs)), (m10, .inl (cA, 64, .inl lt))]) := by
  refine Cv.of (cc := c_M_finds) (nL := 4) (lv := [(0, .ref m0), (1, .int t), (2, .int k)]) (by decide) rfl (Nat.le_of_ble_eq_true rfl) rfl ?_
  intro p e s m args below meth cd A Q F hK hN hA hinit ret
  have h80 := hA0.1
  refine j_iconst (v := nI 0) F d_M_finds_0 (by decide) ?_
  refine j_istoren (lv' := [(3, .int (nI 0)), (0, .ref m0), (1, .int t), (2, .int k)]) F d_M_finds_1 rfl (by decide) rfl ?_
  have loop2 : ∀ (fuel : Nat) (i : Nat) (g : Nat → Int32) (hfuel2 : 20 - i < fuel) (hi : i ≤ 20) (hg : ∀ j, j < i → g j = -1), J p l e rm_M_finds s m args below meth cd D vwCl A s.heap 4 0 0 Q [(m0, .inr (6, [.int th, .int now, .int (nI n), .int rf, .ref m1, .ref m2, .ref m3, .ref m4, .ref m5, .ref m6, .ref m7, .ref m8, .ref m9, .ref m10])), (m1, .inl (cA, 80, .inl (X 0))), (m2, .inl (cA, 80, .inl (X 1))), (m3, .inl (cA, 80, .inl (X 2))), (m4, .inl (cA, 80, .inl (X 3))), (m5, .inl (cA, 80, .inl (X 4))), (m6, .inl (cA, 20, .inl g)), (m7, .inl (cA, 10, .inl tt)), (m8, .inl (cA, 10, .inl sm)), (m9, .inl (cA, 10, .inl hs)), (m10, .inl (cA, 64, .inl lt))] [(0, .ref m0), (1, .int t), (2, .int k), (3, .int (nI i))] 2 [] := by
    intro fuel
    induction fuel with
    | zero => intro i g hfuel; exact absurd hfuel (Nat.not_lt_zero _)
    | succ fuel ih2 =>
      intro i g hfuel2 hi hg
      refine j_iloadn F d_M_finds_2 3 rfl rfl ?_
      refine j_bipush (v := nI 20) F d_M_finds_3 (by decide) ?_
      refine j_ic_ge (tgt := 21) F d_M_finds_5 (by decide) (fun c_5 => ?_) (fun c_5 => ?_)
      · have c_5 : 20 ≤ i := (nI_leI (by omega) (by omega)).mp c_5
        refine j_ext (ws' := [(m0, .inr (6, [.int th, .int now, .int (nI n), .int rf, .ref m1, .ref m2, .ref m3, .ref m4, .ref m5, .ref m6, .ref m7, .ref m8, .ref m9, .ref m10])), (m1, .inl (cA, 80, .inl (X 0))), (m2, .inl (cA, 80, .inl (X 1))), (m3, .inl (cA, 80, .inl (X 2))), (m4, .inl (cA, 80, .inl (X 3))), (m5, .inl (cA, 80, .inl (X 4))), (m6, .inl (cA, 20, .inl (fun _ => (-1)))), (m7, .inl (cA, 10, .inl tt)), (m8, .inl (cA, 10, .inl sm)), (m9, .inl (cA, 10, .inl hs)), (m10, .inl (cA, 64, .inl lt))]) 6 (g := fun _ => (-1)) rfl (fun j hj => hg j (by omega)) rfl ?_
        refine j_iconst (v := nI 0) F d_M_finds_21 (by decide) ?_
        refine j_istoren (lv' := [(3, .int (nI 0)), (0, .ref m0), (1, .int t), (2, .int k)]) F d_M_finds_22 rfl (by decide) rfl ?_
        have loop23 : ∀ (fuel : Nat) (i : Nat) (g2 g3 : Nat → Int32) (hfuel23 : 10 - i < fuel) (hi : i ≤ 10) (hg2 : ∀ j, j < i → g2 j = nI 0) (hg3 : ∀ j, j < i → g3 j = nI 0), J p l e rm_M_finds s m args below meth cd D vwCl A s.heap 4 0 0 Q [(m0, .inr (6, [.int th, .int now, .int (nI n), .int rf, .ref m1, .ref m2, .ref m3, .ref m4, .ref m5, .ref m6, .ref m7, .ref m8, .ref m9, .ref m10])), (m1, .inl (cA, 80, .inl (X 0))), (m2, .inl (cA, 80, .inl (X 1))), (m3, .inl (cA, 80, .inl (X 2))), (m4, .inl (cA, 80, .inl (X 3))), (m5, .inl (cA, 80, .inl (X 4))), (m6, .inl (cA, 20, .inl (fun _ => (-1)))), (m7, .inl (cA, 10, .inl g2)), (m8, .inl (cA, 10, .inl g3)), (m9, .inl (cA, 10, .inl hs)), (m10, .inl (cA, 64, .inl lt))] [(0, .ref m0), (1, .int t), (2, .int k), (3, .int (nI i))] 23 [] := by
          intro fuel
          induction fuel with
          | zero => intro i g2 g3 hfuel; exact absurd hfuel (Nat.not_lt_zero _)
          | succ fuel ih23 =>
            intro i g2 g3 hfuel23 hi hg2 hg3
            refine j_iloadn F d_M_finds_23 3 rfl rfl ?_
            refine j_bipush (v := nI 10) F d_M_finds_24 (by decide) ?_
            refine j_ic_ge (tgt := 49) F d_M_finds_26 (by decide) (fun c_26 => ?_) (fun c_26 => ?_)
            · have c_26 : 10 ≤ i := (nI_leI (by omega) (by omega)).mp c_26
              refine j_ext (ws' := [(m0, .inr (6, [.int th, .int now, .int (nI n), .int rf, .ref m1, .ref m2, .ref m3, .ref m4, .ref m5, .ref m6, .ref m7, .ref m8, .ref m9, .ref m10])), (m1, .inl (cA, 80, .inl (X 0))), (m2, .inl (cA, 80, .inl (X 1))), (m3, .inl (cA, 80, .inl (X 2))), (m4, .inl (cA, 80, .inl (X 3))), (m5, .inl (cA, 80, .inl (X 4))), (m6, .inl (cA, 20, .inl (fun _ => (-1)))), (m7, .inl (cA, 10, .inl (fun _ => nI 0))), (m8, .inl (cA, 10, .inl g3)), (m9, .inl (cA, 10, .inl hs)), (m10, .inl (cA, 64, .inl lt))]) 7 (g := fun _ => nI 0) rfl (fun j hj => hg2 j (by omega)) rfl ?_
              refine j_ext (ws' := [(m0, .inr (6, [.int th, .int now, .int (nI n), .int rf, .ref m1, .ref m2, .ref m3, .ref m4, .ref m5, .ref m6, .ref m7, .ref m8, .ref m9, .ref m10])), (m1, .inl (cA, 80, .inl (X 0))), (m2, .inl (cA, 80, .inl (X 1))), (m3, .inl (cA, 80, .inl (X 2))), (m4, .inl (cA, 80, .inl (X 3))), (m5, .inl (cA, 80, .inl (X 4))), (m6, .inl (cA, 20, .inl (fun _ => (-1)))), (m7, .inl (cA, 10, .inl (fun _ => nI 0))), (m8, .inl (cA, 10, .inl (fun _ => nI 0))), (m9, .inl (cA, 10, .inl hs)), (m10, .inl (cA, 64, .inl lt))]) 8 (g := fun _ => nI 0) rfl (fun j hj => hg3 j (by omega)) rfl ?_
              refine j_aloadn F d_M_finds_49 0 rfl rfl ?_
              refine j_iconst (v := (-1)) F d_M_finds_50 (by decide) ?_
              refine j_iloadn F d_M_finds_51 1 rfl rfl ?_
              refine j_iloadn F d_M_finds_52 2 rfl rfl ?_
              refine j_goi (wc := [(m0, .inr (6, [.int th, .int now, .int (nI n), .int rf, .ref m1, .ref m2, .ref m3, .ref m4, .ref m5, .ref m6, .ref m7, .ref m8, .ref m9, .ref m10])), (m1, .inl (cA, 80, .inl (X 0))), (m2, .inl (cA, 80, .inl (X 1))), (m3, .inl (cA, 80, .inl (X 2))), (m4, .inl (cA, 80, .inl (X 3))), (m5, .inl (cA, 80, .inl (X 4))), (m6, .inl (cA, 20, .inl (fun _ => (-1)))), (m7, .inl (cA, 10, .inl (fun _ => nI 0))), (m8, .inl (cA, 10, .inl (fun _ => nI 0))), (m9, .inl (cA, 10, .inl hs)), (m10, .inl (cA, 64, .inl lt))]) (wr := []) hA [0, 1, 2, 3, 4, 5, 6, 7, 8, 9, 10] [] rfl rfl (by decide) (by decide) (fun H locs ls hP hD hl => va_runV (As := [.int (-1), .int t, .int k]) (rest := []) F (ct_M_next l D cA m0 m1 m2 m3 m4 m5 m6 m7 m8 m9 m10 th now n rf X (fun _ => (-1)) (fun _ => nI 0) (fun _ => nI 0) hs lt hA0 (-1) t k  H.size) ⟨callB_of 3 F.2.2.2.2 (gd k_548) rfl rfl rfl (F.2.2.2.2 _ (wm k_7)) (F.2.2.2.2 _ (wm k_545)) (by decide +kernel) ⟨by decide, by decide⟩, F.2.2.2.2 _ (wm k_547), F.2.2.2.2 _ (wm ks_28)⟩ (pre_V rfl hK hN hP hD [0, 1, 2, 3, 4, 5, 6, 7, 8, 9, 10] rfl (by decide) 0 rfl rfl) rfl rfl hl.1 rfl (lv_room (Nat.le_of_ble_eq_true rfl)) d_M_finds_53 ⟨by decide, by decide⟩) (fun r53 u53 hw53 => ?_)
              subst hw53
              refine j_ws (ws' := [(m0, .inr (6, [.int th, .int now, .int (nI n), .int rf, .ref m1, .ref m2, .ref m3, .ref m4, .ref m5, .ref m6, .ref m7, .ref m8, .ref m9, .ref m10])), (m1, .inl (cA, 80, .inl (X 0))), (m2, .inl (cA, 80, .inl (X 1))), (m3, .inl (cA, 80, .inl (X 2))), (m4, .inl (cA, 80, .inl (X 3))), (m5, .inl (cA, 80, .inl (X 4))), (m6, .inl (cA, 20, .inl (fun _ => (-1)))), (m7, .inl (cA, 10, .inl (fun _ => nI 0))), (m8, .inl (cA, 10, .inl (fun _ => nI 0))), (m9, .inl (cA, 10, .inl hs)), (m10, .inl (cA, 64, .inl lt))]) [0, 1, 2, 3, 4, 5, 6, 7, 8, 9, 10] (by decide) rfl ?_
              refine j_top (y := oI (fo X n t k 0)) (by rw [nxt_0 t k hA0]; rfl) ?_
              refine j_istoren (lv' := [(3, .int (oI (fo X n t k 0))), (0, .ref m0), (1, .int t), (2, .int k)]) F d_M_finds_56 rfl (by decide) rfl ?_
              have loop57 : ∀ (fuel : Nat) (j : Nat) (hfuel57 : (ordL X n t k).length - j < fuel) (hj0 : j ≤ (ordL X n t k).length), J p l e rm_M_finds s m args below meth cd D vwCl A s.heap 4 0 0 Q [(m0, .inr (6, [.int th, .int now, .int (nI n), .int rf, .ref m1, .ref m2, .ref m3, .ref m4, .ref m5, .ref m6, .ref m7, .ref m8, .ref m9, .ref m10])), (m1, .inl (cA, 80, .inl (X 0))), (m2, .inl (cA, 80, .inl (X 1))), (m3, .inl (cA, 80, .inl (X 2))), (m4, .inl (cA, 80, .inl (X 3))), (m5, .inl (cA, 80, .inl (X 4))), (m6, .inl (cA, 20, .inl (slT X (ordL X n t k) j))), (m7, .inl (cA, 10, .inl (ttT X (ordL X n t k) j))), (m8, .inl (cA, 10, .inl (smT X (ordL X n t k) j))), (m9, .inl (cA, 10, .inl hs)), (m10, .inl (cA, 64, .inl lt))] [(0, .ref m0), (1, .int t), (2, .int k), (3, .int (oI (fo X n t k j)))] 57 [] := by
                intro fuel
                induction fuel with
                | zero => intro j hfuel; exact absurd hfuel (Nat.not_lt_zero _)
                | succ fuel ih57 =>
                  intro j hfuel57 hj0
                  rcases Nat.lt_or_ge j (ordL X n t k).length with hj | hj
                  · rw [fo_t hj]
                    have hm := ordL_lt j hj
                    show J p l e rm_M_finds s m args below meth cd D vwCl A s.heap 4 0 0 Q [(m0, .inr (6, [.int th, .int now, .int (nI n), .int rf, .ref m1, .ref m2, .ref m3, .ref m4, .ref m5, .ref m6, .ref m7, .ref m8, .ref m9, .ref m10])), (m1, .inl (cA, 80, .inl (X 0))), (m2, .inl (cA, 80, .inl (X 1))), (m3, .inl (cA, 80, .inl (X 2))), (m4, .inl (cA, 80, .inl (X 3))), (m5, .inl (cA, 80, .inl (X 4))), (m6, .inl (cA, 20, .inl (slT X (ordL X n t k) j))), (m7, .inl (cA, 10, .inl (ttT X (ordL X n t k) j))), (m8, .inl (cA, 10, .inl (smT X (ordL X n t k) j))), (m9, .inl (cA, 10, .inl hs)), (m10, .inl (cA, 64, .inl lt))] [(0, .ref m0), (1, .int t), (2, .int k), (3, .int (nI ((ordL X n t k).getD j 0)))] 57 []
                    refine j_iloadn F d_M_finds_57 3 rfl rfl ?_
                    refine j_if_lt (tgt := 81) F d_M_finds_58 (by decide) (fun c_58 => ?_) (fun c_58 => ?_)
                    · have c_58 : ((ordL X n t k).getD j 0) < 0 := (nI_ltI (by omega) (by omega)).mp c_58
                      exact absurd c_58 (by omega)
                    · have c_58 : ¬ ((ordL X n t k).getD j 0) < 0 := fun h => c_58 ((nI_ltI (by omega) (by omega)).mpr h)
                      refine j_aloadn F d_M_finds_61 0 rfl rfl ?_
                      refine j_iloadn F d_M_finds_62 3 rfl rfl ?_
                      refine j_gov (wc := [(m0, .inr (6, [.int th, .int now, .int (nI n), .int rf, .ref m1, .ref m2, .ref m3, .ref m4, .ref m5, .ref m6, .ref m7, .ref m8, .ref m9, .ref m10])), (m1, .inl (cA, 80, .inl (X 0))), (m2, .inl (cA, 80, .inl (X 1))), (m3, .inl (cA, 80, .inl (X 2))), (m4, .inl (cA, 80, .inl (X 3))), (m5, .inl (cA, 80, .inl (X 4))), (m6, .inl (cA, 20, .inl (slT X (ordL X n t k) j))), (m7, .inl (cA, 10, .inl (ttT X (ordL X n t k) j))), (m8, .inl (cA, 10, .inl (smT X (ordL X n t k) j))), (m9, .inl (cA, 10, .inl hs)), (m10, .inl (cA, 64, .inl lt))]) (wr := []) hA [0, 1, 2, 3, 4, 5, 6, 7, 8, 9, 10] [] rfl rfl (by decide) (by decide) (fun H locs ls hP hD hl => va_runV (As := [.int (nI ((ordL X n t k).getD j 0))]) (rest := []) F (ct_M_holds l D cA m0 m1 m2 m3 m4 m5 m6 m7 m8 m9 m10 th now n rf X (slT X (ordL X n t k) j) (ttT X (ordL X n t k) j) (smT X (ordL X n t k) j) hs lt hA0 ((ordL X n t k).getD j 0) (by omega)  H.size) ⟨callB_of 1 F.2.2.2.2 (gd k_564) rfl rfl rfl (F.2.2.2.2 _ (wm k_7)) (F.2.2.2.2 _ (wm k_561)) (by decide +kernel) ⟨by decide, by decide⟩, F.2.2.2.2 _ (wm k_563), F.2.2.2.2 _ (wm ks_32)⟩ (pre_V rfl hK hN hP hD [0, 1, 2, 3, 4, 5, 6, 7, 8, 9, 10] rfl (by decide) 0 rfl rfl) rfl rfl hl.1 rfl (lv_room (Nat.le_of_ble_eq_true rfl)) d_M_finds_63 ⟨by decide, by decide⟩) (fun u63 hw63 => ?_)
                      refine j_ws (ws' := [(m0, .inr (6, [.int th, .int now, .int (nI n), .int rf, .ref m1, .ref m2, .ref m3, .ref m4, .ref m5, .ref m6, .ref m7, .ref m8, .ref m9, .ref m10])), (m1, .inl (cA, 80, .inl (X 0))), (m2, .inl (cA, 80, .inl (X 1))), (m3, .inl (cA, 80, .inl (X 2))), (m4, .inl (cA, 80, .inl (X 3))), (m5, .inl (cA, 80, .inl (X 4))), (m6, .inl (cA, 20, .inl (stS X ((ordL X n t k).getD j 0) (slT X (ordL X n t k) j)))), (m7, .inl (cA, 10, .inl (stT X ((ordL X n t k).getD j 0) (ttT X (ordL X n t k) j)))), (m8, .inl (cA, 10, .inl (stM X ((ordL X n t k).getD j 0) (smT X (ordL X n t k) j)))), (m9, .inl (cA, 10, .inl hs)), (m10, .inl (cA, 64, .inl lt))]) [0, 1, 2, 3, 4, 5, 6, 7, 8, 9, 10] (by decide) rfl ?_
                      refine j_aloadn F d_M_finds_66 0 rfl rfl ?_
                      refine j_aloadn F d_M_finds_67 0 rfl rfl ?_
                      refine j_iloadn F d_M_finds_68 3 rfl rfl ?_
                      refine j_goi (wc := [(m0, .inr (6, [.int th, .int now, .int (nI n), .int rf, .ref m1, .ref m2, .ref m3, .ref m4, .ref m5, .ref m6, .ref m7, .ref m8, .ref m9, .ref m10])), (m1, .inl (cA, 80, .inl (X 0))), (m2, .inl (cA, 80, .inl (X 1))), (m3, .inl (cA, 80, .inl (X 2))), (m4, .inl (cA, 80, .inl (X 3))), (m5, .inl (cA, 80, .inl (X 4))), (m6, .inl (cA, 20, .inl (stS X ((ordL X n t k).getD j 0) (slT X (ordL X n t k) j)))), (m7, .inl (cA, 10, .inl (stT X ((ordL X n t k).getD j 0) (ttT X (ordL X n t k) j)))), (m8, .inl (cA, 10, .inl (stM X ((ordL X n t k).getD j 0) (smT X (ordL X n t k) j)))), (m9, .inl (cA, 10, .inl hs)), (m10, .inl (cA, 64, .inl lt))]) (wr := []) hA [0, 1, 2, 3, 4, 5, 6, 7, 8, 9, 10] [] rfl rfl (by decide) (by decide) (fun H locs ls hP hD hl => va_runV (As := [.int (nI ((ordL X n t k).getD j 0))]) (rest := [.ref m0]) F (ct_M_order l D cA m0 m1 m2 m3 m4 m5 m6 m7 m8 m9 m10 th now n rf X (stS X ((ordL X n t k).getD j 0) (slT X (ordL X n t k) j)) (stT X ((ordL X n t k).getD j 0) (ttT X (ordL X n t k) j)) (stM X ((ordL X n t k).getD j 0) (smT X (ordL X n t k) j)) hs lt hA0 ((ordL X n t k).getD j 0) (by omega)  H.size) ⟨callB_of 1 F.2.2.2.2 (gd k_560) rfl rfl rfl (F.2.2.2.2 _ (wm k_7)) (F.2.2.2.2 _ (wm k_557)) (by decide +kernel) ⟨by decide, by decide⟩, F.2.2.2.2 _ (wm k_559), F.2.2.2.2 _ (wm ks_31)⟩ (pre_V rfl hK hN hP hD [0, 1, 2, 3, 4, 5, 6, 7, 8, 9, 10] rfl (by decide) 0 rfl rfl) rfl rfl hl.1 rfl (lv_room (Nat.le_of_ble_eq_true rfl)) d_M_finds_69 ⟨by decide, by decide⟩) (fun r69 u69 hw69 => ?_)
                      subst hw69
                      refine j_ws (ws' := [(m0, .inr (6, [.int th, .int now, .int (nI n), .int rf, .ref m1, .ref m2, .ref m3, .ref m4, .ref m5, .ref m6, .ref m7, .ref m8, .ref m9, .ref m10])), (m1, .inl (cA, 80, .inl (X 0))), (m2, .inl (cA, 80, .inl (X 1))), (m3, .inl (cA, 80, .inl (X 2))), (m4, .inl (cA, 80, .inl (X 3))), (m5, .inl (cA, 80, .inl (X 4))), (m6, .inl (cA, 20, .inl (stS X ((ordL X n t k).getD j 0) (slT X (ordL X n t k) j)))), (m7, .inl (cA, 10, .inl (stT X ((ordL X n t k).getD j 0) (ttT X (ordL X n t k) j)))), (m8, .inl (cA, 10, .inl (stM X ((ordL X n t k).getD j 0) (smT X (ordL X n t k) j)))), (m9, .inl (cA, 10, .inl hs)), (m10, .inl (cA, 64, .inl lt))]) [0, 1, 2, 3, 4, 5, 6, 7, 8, 9, 10] (by decide) rfl ?_
                      refine j_iloadn F d_M_finds_72 1 rfl rfl ?_
                      refine j_iloadn F d_M_finds_73 2 rfl rfl ?_
                      refine j_goi (wc := [(m0, .inr (6, [.int th, .int now, .int (nI n), .int rf, .ref m1, .ref m2, .ref m3, .ref m4, .ref m5, .ref m6, .ref m7, .ref m8, .ref m9, .ref m10])), (m1, .inl (cA, 80, .inl (X 0))), (m2, .inl (cA, 80, .inl (X 1))), (m3, .inl (cA, 80, .inl (X 2))), (m4, .inl (cA, 80, .inl (X 3))), (m5, .inl (cA, 80, .inl (X 4))), (m6, .inl (cA, 20, .inl (stS X ((ordL X n t k).getD j 0) (slT X (ordL X n t k) j)))), (m7, .inl (cA, 10, .inl (stT X ((ordL X n t k).getD j 0) (ttT X (ordL X n t k) j)))), (m8, .inl (cA, 10, .inl (stM X ((ordL X n t k).getD j 0) (smT X (ordL X n t k) j)))), (m9, .inl (cA, 10, .inl hs)), (m10, .inl (cA, 64, .inl lt))]) (wr := []) hA [0, 1, 2, 3, 4, 5, 6, 7, 8, 9, 10] [] rfl rfl (by decide) (by decide) (fun H locs ls hP hD hl => va_runV (As := [.int (nI (ky X ((ordL X n t k).getD j 0))), .int t, .int k]) (rest := []) F (ct_M_next l D cA m0 m1 m2 m3 m4 m5 m6 m7 m8 m9 m10 th now n rf X (stS X ((ordL X n t k).getD j 0) (slT X (ordL X n t k) j)) (stT X ((ordL X n t k).getD j 0) (ttT X (ordL X n t k) j)) (stM X ((ordL X n t k).getD j 0) (smT X (ordL X n t k) j)) hs lt hA0 (nI (ky X ((ordL X n t k).getD j 0))) t k  H.size) ⟨callB_of 3 F.2.2.2.2 (gd k_548) rfl rfl rfl (F.2.2.2.2 _ (wm k_7)) (F.2.2.2.2 _ (wm k_545)) (by decide +kernel) ⟨by decide, by decide⟩, F.2.2.2.2 _ (wm k_547), F.2.2.2.2 _ (wm ks_28)⟩ (pre_V rfl hK hN hP hD [0, 1, 2, 3, 4, 5, 6, 7, 8, 9, 10] rfl (by decide) 0 rfl rfl) rfl rfl hl.1 rfl (lv_room (Nat.le_of_ble_eq_true rfl)) d_M_finds_74 ⟨by decide, by decide⟩) (fun r74 u74 hw74 => ?_)
                      subst hw74
                      refine j_ws (ws' := [(m0, .inr (6, [.int th, .int now, .int (nI n), .int rf, .ref m1, .ref m2, .ref m3, .ref m4, .ref m5, .ref m6, .ref m7, .ref m8, .ref m9, .ref m10])), (m1, .inl (cA, 80, .inl (X 0))), (m2, .inl (cA, 80, .inl (X 1))), (m3, .inl (cA, 80, .inl (X 2))), (m4, .inl (cA, 80, .inl (X 3))), (m5, .inl (cA, 80, .inl (X 4))), (m6, .inl (cA, 20, .inl (stS X ((ordL X n t k).getD j 0) (slT X (ordL X n t k) j)))), (m7, .inl (cA, 10, .inl (stT X ((ordL X n t k).getD j 0) (ttT X (ordL X n t k) j)))), (m8, .inl (cA, 10, .inl (stM X ((ordL X n t k).getD j 0) (smT X (ordL X n t k) j)))), (m9, .inl (cA, 10, .inl hs)), (m10, .inl (cA, 64, .inl lt))]) [0, 1, 2, 3, 4, 5, 6, 7, 8, 9, 10] (by decide) rfl ?_
                      refine j_top (y := oI (fo X n t k (j + 1))) (by rw [nxt_s t k hA0 hj]; rfl) ?_
                      refine j_istoren (lv' := [(3, .int (oI (fo X n t k (j + 1)))), (0, .ref m0), (1, .int t), (2, .int k)]) F d_M_finds_77 rfl (by decide) rfl ?_
                      refine j_goto (tgt := 57) F d_M_finds_78 (by decide) ?_
                      refine j_lv (lv' := [(0, .ref m0), (1, .int t), (2, .int k), (3, .int (oI (fo X n t k (j + 1))))]) [1, 2, 3, 0] rfl ?_
                      exact ih57 (j + 1) (by omega) (by omega)
                  · rw [fo_f hj]
                    show J p l e rm_M_finds s m args below meth cd D vwCl A s.heap 4 0 0 Q [(m0, .inr (6, [.int th, .int now, .int (nI n), .int rf, .ref m1, .ref m2, .ref m3, .ref m4, .ref m5, .ref m6, .ref m7, .ref m8, .ref m9, .ref m10])), (m1, .inl (cA, 80, .inl (X 0))), (m2, .inl (cA, 80, .inl (X 1))), (m3, .inl (cA, 80, .inl (X 2))), (m4, .inl (cA, 80, .inl (X 3))), (m5, .inl (cA, 80, .inl (X 4))), (m6, .inl (cA, 20, .inl (slT X (ordL X n t k) j))), (m7, .inl (cA, 10, .inl (ttT X (ordL X n t k) j))), (m8, .inl (cA, 10, .inl (smT X (ordL X n t k) j))), (m9, .inl (cA, 10, .inl hs)), (m10, .inl (cA, 64, .inl lt))] [(0, .ref m0), (1, .int t), (2, .int k), (3, .int (-1))] 57 []
                    refine j_iloadn F d_M_finds_57 3 rfl rfl ?_
                    refine j_if_lt (tgt := 81) F d_M_finds_58 (by decide) (fun c_58 => ?_) (fun c_58 => ?_)
                    · obtain rfl : j = (ordL X n t k).length := by omega
                      exact ret _ _ _ _ _ () d_M_finds_81 (by decide) (by decide) rfl trivial
                    · exact absurd (show (-1 : Int32) < nI 0 by decide) c_58
              refine j_lv (lv' := [(0, .ref m0), (1, .int t), (2, .int k), (3, .int (oI (fo X n t k 0)))]) [1, 2, 3, 0] rfl ?_
              exact loop57 ((ordL X n t k).length + 1) 0 (by omega) (by omega)
            · have c_26 : ¬ 10 ≤ i := fun h => c_26 ((nI_leI (by omega) (by omega)).mpr h)
              refine j_aloadn F d_M_finds_29 0 rfl rfl ?_
              refine j_get (ci := 6) (v := .ref m7) F in_M hK 0 rfl rfl 10 (by decide) (wm k_476) rfl d_M_finds_30 ?_
              refine j_iloadn F d_M_finds_33 3 rfl rfl ?_
              refine j_iconst (v := nI 0) F d_M_finds_34 (by decide) ?_
              refine j_iast (ws' := [(m0, .inr (6, [.int th, .int now, .int (nI n), .int rf, .ref m1, .ref m2, .ref m3, .ref m4, .ref m5, .ref m6, .ref m7, .ref m8, .ref m9, .ref m10])), (m1, .inl (cA, 80, .inl (X 0))), (m2, .inl (cA, 80, .inl (X 1))), (m3, .inl (cA, 80, .inl (X 2))), (m4, .inl (cA, 80, .inl (X 3))), (m5, .inl (cA, 80, .inl (X 4))), (m6, .inl (cA, 20, .inl (fun _ => (-1)))), (m7, .inl (cA, 10, .inl (upd g2 i (nI 0)))), (m8, .inl (cA, 10, .inl g3)), (m9, .inl (cA, 10, .inl hs)), (m10, .inl (cA, 64, .inl lt))]) F hK 7 0 rfl rfl (by omega) (by decide) d_M_finds_35 rfl ?_
              refine j_aloadn F d_M_finds_36 0 rfl rfl ?_
              refine j_get (ci := 6) (v := .ref m8) F in_M hK 0 rfl rfl 11 (by decide) (wm k_477) rfl d_M_finds_37 ?_
              refine j_iloadn F d_M_finds_40 3 rfl rfl ?_
              refine j_iconst (v := nI 0) F d_M_finds_41 (by decide) ?_
              refine j_iast (ws' := [(m0, .inr (6, [.int th, .int now, .int (nI n), .int rf, .ref m1, .ref m2, .ref m3, .ref m4, .ref m5, .ref m6, .ref m7, .ref m8, .ref m9, .ref m10])), (m1, .inl (cA, 80, .inl (X 0))), (m2, .inl (cA, 80, .inl (X 1))), (m3, .inl (cA, 80, .inl (X 2))), (m4, .inl (cA, 80, .inl (X 3))), (m5, .inl (cA, 80, .inl (X 4))), (m6, .inl (cA, 20, .inl (fun _ => (-1)))), (m7, .inl (cA, 10, .inl (upd g2 i (nI 0)))), (m8, .inl (cA, 10, .inl (upd g3 i (nI 0)))), (m9, .inl (cA, 10, .inl hs)), (m10, .inl (cA, 64, .inl lt))]) F hK 8 0 rfl rfl (by omega) (by decide) d_M_finds_42 rfl ?_
              refine j_iinc (v := nI (i + 1)) (lv' := [(3, .int (nI (i + 1))), (0, .ref m0), (1, .int t), (2, .int k)]) F d_M_finds_43 3 rfl (jn_inc i) (by decide) rfl ?_
              refine j_goto (tgt := 23) F d_M_finds_46 (by decide) ?_
              refine j_lv (lv' := [(0, .ref m0), (1, .int t), (2, .int k), (3, .int (nI (i + 1)))]) [1, 2, 3, 0] rfl ?_
              exact ih23 (i + 1) (upd g2 i (nI 0)) (upd g3 i (nI 0)) (by omega) (by omega) (fun j hj => by
                by_cases e1 : j = i
                · rw [e1, upd_eq]
                · rw [upd_ne e1]; exact hg2 j (by omega)) (fun j hj => by
                by_cases e1 : j = i
                · rw [e1, upd_eq]
                · rw [upd_ne e1]; exact hg3 j (by omega))
        refine j_lv (lv' := [(0, .ref m0), (1, .int t), (2, .int k), (3, .int (nI 0))]) [1, 2, 3, 0] rfl ?_
        exact loop23 (10 + 1) 0 tt sm (by omega) (by omega) (fun j hj => absurd hj (Nat.not_lt_zero _)) (fun j hj => absurd hj (Nat.not_lt_zero _))
      · have c_5 : ¬ 20 ≤ i := fun h => c_5 ((nI_leI (by omega) (by omega)).mpr h)
        refine j_aloadn F d_M_finds_8 0 rfl rfl ?_
        refine j_get (ci := 6) (v := .ref m6) F in_M hK 0 rfl rfl 9 (by decide) (wm k_475) rfl d_M_finds_9 ?_
        refine j_iloadn F d_M_finds_12 3 rfl rfl ?_
        refine j_iconst (v := (-1)) F d_M_finds_13 (by decide) ?_
        refine j_iast (ws' := [(m0, .inr (6, [.int th, .int now, .int (nI n), .int rf, .ref m1, .ref m2, .ref m3, .ref m4, .ref m5, .ref m6, .ref m7, .ref m8, .ref m9, .ref m10])), (m1, .inl (cA, 80, .inl (X 0))), (m2, .inl (cA, 80, .inl (X 1))), (m3, .inl (cA, 80, .inl (X 2))), (m4, .inl (cA, 80, .inl (X 3))), (m5, .inl (cA, 80, .inl (X 4))), (m6, .inl (cA, 20, .inl (upd g i (-1)))), (m7, .inl (cA, 10, .inl tt)), (m8, .inl (cA, 10, .inl sm)), (m9, .inl (cA, 10, .inl hs)), (m10, .inl (cA, 64, .inl lt))]) F hK 6 0 rfl rfl (by omega) (by decide) d_M_finds_14 rfl ?_
        refine j_iinc (v := nI (i + 1)) (lv' := [(3, .int (nI (i + 1))), (0, .ref m0), (1, .int t), (2, .int k)]) F d_M_finds_15 3 rfl (jn_inc i) (by decide) rfl ?_
        refine j_goto (tgt := 2) F d_M_finds_18 (by decide) ?_
        refine j_lv (lv' := [(0, .ref m0), (1, .int t), (2, .int k), (3, .int (nI (i + 1)))]) [1, 2, 3, 0] rfl ?_
        exact ih2 (i + 1) (upd g i (-1)) (by omega) (by omega) (fun j hj => by
          by_cases e1 : j = i
          · rw [e1, upd_eq]
          · rw [upd_ne e1]; exact hg j (by omega))
  refine j_lv (lv' := [(0, .ref m0), (1, .int t), (2, .int k), (3, .int (nI 0))]) [1, 2, 3, 0] rfl ?_
  exact loop2 (20 + 1) 0 sl (by omega) (by omega) (fun j hj => absurd hj (Nat.not_lt_zero _))

def rm_M_place : Room := { frames := 4, cells := 0, slots := 0, locals := 96 }
set_option maxHeartbeats 4000000 in
set_option maxRecDepth 100000 in
theorem ct_M_place_ok (l : Launch) (D : va_G) (cA : ClassId) (m0 m1 m2 m3 m4 m5 m6 m7 m8 m9 m10 : Nat) (th now : Int32) (n : Nat) (rf : Int32) (X : AF) (sl tt sm hs lt : Nat → Int32) (hA0 : aok X n) (b : Nat) (hb : b < 20) (t k : Int32) (ht : win t (nI 0) (nI 10000) = true) (hk : win k (nI 0) (nI 10000) = true) : Ci (S := Unit) l y_M_place (Cond.code y_M_place c_M_place 4 (some .int) :: WD) rm_M_place D vwCl [(cA, .int)] nws [.ref m0, .int (nI b), .int t, .int k] [(m0, .inr (6, [.int th, .int now, .int (nI n), .int rf, .ref m1, .ref m2, .ref m3, .ref m4, .ref m5, .ref m6, .ref m7, .ref m8, .ref m9, .ref m10])), (m1, .inl (cA, 80, .inl (X 0))), (m2, .inl (cA, 80, .inl (X 1))), (m3, .inl (cA, 80, .inl (X 2))), (m4, .inl (cA, 80, .inl (X 3))), (m5, .inl (cA, 80, .inl (X 4))), (m6, .inl (cA, 20, .inl sl)), (m7, .inl (cA, 10, .inl tt)), (m8, .inl (cA, 10, .inl sm)), (m9, .inl (cA, 10, .inl hs)), (m10, .inl (cA, 64, .inl lt))] 0 0 (fun r _ => r = slP X n t k b) (fun _ => [(m0, .inr (6, [.int (nI 0), .int now, .int (nI n), .int rf, .ref m1, .ref m2, .ref m3, .ref m4, .ref m5, .ref m6, .ref m7, .ref m8, .ref m9, .ref m10])), (m1, .inl (cA, 80, .inl (X 0))), (m2, .inl (cA, 80, .inl (X 1))), (m3, .inl (cA, 80, .inl (X 2))), (m4, .inl (cA, 80, .inl (X 3))), (m5, .inl (cA, 80, .inl (X 4))), (m6, .inl (cA, 20, .inl (slP X n t k))), (m7, .inl (cA, 10, .inl (ttP X n t k))), (m8, .inl (cA, 10, .inl (smP X n t k))), (m9, .inl (cA, 10, .inl hs)), (m10, .inl (cA, 64, .inl lt))]) := by
  refine Ci.of (cc := c_M_place) (nL := 4) (lv := [(0, .ref m0), (1, .int (nI b)), (2, .int t), (3, .int k)]) (by decide) rfl (Nat.le_of_ble_eq_true rfl) rfl ?_
  intro p e s m args below meth cd A Q F hK hN hA ret
  have h80 := hA0.1
  refine j_aloadn F d_M_place_0 0 rfl rfl ?_
  refine j_iloadn F d_M_place_1 1 rfl rfl ?_
  refine j_iconst (v := nI 0) F d_M_place_2 (by decide) ?_
  refine j_bipush (v := nI 19) F d_M_place_3 (by decide) ?_
  refine j_goi (wc := []) (wr := [(m0, .inr (6, [.int th, .int now, .int (nI n), .int rf, .ref m1, .ref m2, .ref m3, .ref m4, .ref m5, .ref m6, .ref m7, .ref m8, .ref m9, .ref m10])), (m1, .inl (cA, 80, .inl (X 0))), (m2, .inl (cA, 80, .inl (X 1))), (m3, .inl (cA, 80, .inl (X 2))), (m4, .inl (cA, 80, .inl (X 3))), (m5, .inl (cA, 80, .inl (X 4))), (m6, .inl (cA, 20, .inl sl)), (m7, .inl (cA, 10, .inl tt)), (m8, .inl (cA, 10, .inl sm)), (m9, .inl (cA, 10, .inl hs)), (m10, .inl (cA, 64, .inl lt))]) hA [] [0, 1, 2, 3, 4, 5, 6, 7, 8, 9, 10] rfl rfl (by decide) (by decide) (fun H locs ls hP hD hl => va_runS (As := [.int (nI b), .int (nI 0), .int (nI 19)]) (rest := [.ref m0]) F (ct_M_in l D cA (nI b) (nI 0) (nI 19) H.size) ⟨callB_of 3 F.2.2.2.2 (gd k_523) rfl rfl rfl (F.2.2.2.2 _ (wm k_7)) (F.2.2.2.2 _ (wm k_521)) (by decide +kernel) ⟨by decide, by decide⟩, F.2.2.2.2 _ (wm k_522)⟩ (pre_S hK hN hP hD [] rfl (by decide)) rfl rfl hl.1 rfl (lv_room (Nat.le_of_ble_eq_true rfl)) d_M_place_5 ⟨by decide, by decide⟩) (fun r5 u5 hw5 => ?_)
  subst hw5
  refine j_ws (ws' := [(m0, .inr (6, [.int th, .int now, .int (nI n), .int rf, .ref m1, .ref m2, .ref m3, .ref m4, .ref m5, .ref m6, .ref m7, .ref m8, .ref m9, .ref m10])), (m1, .inl (cA, 80, .inl (X 0))), (m2, .inl (cA, 80, .inl (X 1))), (m3, .inl (cA, 80, .inl (X 2))), (m4, .inl (cA, 80, .inl (X 3))), (m5, .inl (cA, 80, .inl (X 4))), (m6, .inl (cA, 20, .inl sl)), (m7, .inl (cA, 10, .inl tt)), (m8, .inl (cA, 10, .inl sm)), (m9, .inl (cA, 10, .inl hs)), (m10, .inl (cA, 64, .inl lt))]) [0, 1, 2, 3, 4, 5, 6, 7, 8, 9, 10] (by decide) rfl ?_
  refine j_iloadn F d_M_place_8 2 rfl rfl ?_
  refine j_iloadn F d_M_place_9 3 rfl rfl ?_
  refine j_goi (wc := [(m0, .inr (6, [.int th, .int now, .int (nI n), .int rf, .ref m1, .ref m2, .ref m3, .ref m4, .ref m5, .ref m6, .ref m7, .ref m8, .ref m9, .ref m10])), (m1, .inl (cA, 80, .inl (X 0))), (m2, .inl (cA, 80, .inl (X 1))), (m3, .inl (cA, 80, .inl (X 2))), (m4, .inl (cA, 80, .inl (X 3))), (m5, .inl (cA, 80, .inl (X 4))), (m6, .inl (cA, 20, .inl sl)), (m7, .inl (cA, 10, .inl tt)), (m8, .inl (cA, 10, .inl sm)), (m9, .inl (cA, 10, .inl hs)), (m10, .inl (cA, 64, .inl lt))]) (wr := []) hA [0, 1, 2, 3, 4, 5, 6, 7, 8, 9, 10] [] rfl rfl (by decide) (by decide) (fun H locs ls hP hD hl => va_runV (As := [.int (bI (win (nI b) (nI 0) (nI 19))), .int t, .int k]) (rest := []) F (ct_M_isAsked_ok l D cA m0 m1 m2 m3 m4 m5 m6 m7 m8 m9 m10 th now n rf X sl tt sm hs lt hA0 (win (nI b) (nI 0) (nI 19)) t k (by rw [win_of rfl (by omega) (by decide), ht, hk]; rfl) H.size) ⟨callB_of 3 F.2.2.2.2 (gd k_540) rfl rfl rfl (F.2.2.2.2 _ (wm k_7)) (F.2.2.2.2 _ (wm k_537)) (by decide +kernel) ⟨by decide, by decide⟩, F.2.2.2.2 _ (wm k_539), F.2.2.2.2 _ (wm ks_26)⟩ (pre_V rfl hK hN hP hD [0, 1, 2, 3, 4, 5, 6, 7, 8, 9, 10] rfl (by decide) 0 rfl rfl) rfl rfl hl.1 rfl (lv_room (Nat.le_of_ble_eq_true rfl)) d_M_place_10 ⟨by decide, by decide⟩) (fun r10 u10 hw10 => ?_)
  subst hw10
  refine j_ws (ws' := [(m0, .inr (6, [.int (nI 0), .int now, .int (nI n), .int rf, .ref m1, .ref m2, .ref m3, .ref m4, .ref m5, .ref m6, .ref m7, .ref m8, .ref m9, .ref m10])), (m1, .inl (cA, 80, .inl (X 0))), (m2, .inl (cA, 80, .inl (X 1))), (m3, .inl (cA, 80, .inl (X 2))), (m4, .inl (cA, 80, .inl (X 3))), (m5, .inl (cA, 80, .inl (X 4))), (m6, .inl (cA, 20, .inl sl)), (m7, .inl (cA, 10, .inl tt)), (m8, .inl (cA, 10, .inl sm)), (m9, .inl (cA, 10, .inl hs)), (m10, .inl (cA, 64, .inl lt))]) [0, 1, 2, 3, 4, 5, 6, 7, 8, 9, 10] (by decide) rfl ?_
  refine j_if_ne (tgt := 18) F d_M_place_13 (by decide) (fun c_13 => ?_) (fun c_13 => ?_)
  · refine j_aloadn F d_M_place_18 0 rfl rfl ?_
    refine j_iloadn F d_M_place_19 2 rfl rfl ?_
    refine j_iloadn F d_M_place_20 3 rfl rfl ?_
    refine j_gov (wc := [(m0, .inr (6, [.int (nI 0), .int now, .int (nI n), .int rf, .ref m1, .ref m2, .ref m3, .ref m4, .ref m5, .ref m6, .ref m7, .ref m8, .ref m9, .ref m10])), (m1, .inl (cA, 80, .inl (X 0))), (m2, .inl (cA, 80, .inl (X 1))), (m3, .inl (cA, 80, .inl (X 2))), (m4, .inl (cA, 80, .inl (X 3))), (m5, .inl (cA, 80, .inl (X 4))), (m6, .inl (cA, 20, .inl sl)), (m7, .inl (cA, 10, .inl tt)), (m8, .inl (cA, 10, .inl sm)), (m9, .inl (cA, 10, .inl hs)), (m10, .inl (cA, 64, .inl lt))]) (wr := []) hA [0, 1, 2, 3, 4, 5, 6, 7, 8, 9, 10] [] rfl rfl (by decide) (by decide) (fun H locs ls hP hD hl => va_runV (As := [.int t, .int k]) (rest := []) F (ct_M_finds l D cA m0 m1 m2 m3 m4 m5 m6 m7 m8 m9 m10 (nI 0) now n rf X sl tt sm hs lt hA0 t k  H.size) ⟨callB_of 2 F.2.2.2.2 (gd k_544) rfl rfl rfl (F.2.2.2.2 _ (wm k_7)) (F.2.2.2.2 _ (wm k_541)) (by decide +kernel) ⟨by decide, by decide⟩, F.2.2.2.2 _ (wm k_543), F.2.2.2.2 _ (wm ks_27)⟩ (pre_V rfl hK hN hP hD [0, 1, 2, 3, 4, 5, 6, 7, 8, 9, 10] rfl (by decide) 0 rfl rfl) rfl rfl hl.1 rfl (lv_room (Nat.le_of_ble_eq_true rfl)) d_M_place_21 ⟨by decide, by decide⟩) (fun u21 hw21 => ?_)
    refine j_ws (ws' := [(m0, .inr (6, [.int (nI 0), .int now, .int (nI n), .int rf, .ref m1, .ref m2, .ref m3, .ref m4, .ref m5, .ref m6, .ref m7, .ref m8, .ref m9, .ref m10])), (m1, .inl (cA, 80, .inl (X 0))), (m2, .inl (cA, 80, .inl (X 1))), (m3, .inl (cA, 80, .inl (X 2))), (m4, .inl (cA, 80, .inl (X 3))), (m5, .inl (cA, 80, .inl (X 4))), (m6, .inl (cA, 20, .inl (slP X n t k))), (m7, .inl (cA, 10, .inl (ttP X n t k))), (m8, .inl (cA, 10, .inl (smP X n t k))), (m9, .inl (cA, 10, .inl hs)), (m10, .inl (cA, 64, .inl lt))]) [0, 1, 2, 3, 4, 5, 6, 7, 8, 9, 10] (by decide) rfl ?_
    refine j_aloadn F d_M_place_24 0 rfl rfl ?_
    refine j_get (ci := 6) (v := .ref m6) F in_M hK 0 rfl rfl 9 (by decide) (wm k_475) rfl d_M_place_25 ?_
    refine j_iloadn F d_M_place_28 1 rfl rfl ?_
    refine j_iald (v := (slP X n t k) b) F hK 6 0 rfl rfl (by omega) (by decide) d_M_place_29 rfl ?_
    exact ret _ _ _ _ _ _ () d_M_place_30 rfl (by decide) (by decide) rfl rfl
  · exact absurd c_13 (by decide)

set_option maxHeartbeats 4000000 in
set_option maxRecDepth 100000 in
theorem ct_M_place_no (l : Launch) (D : va_G) (cA : ClassId) (m0 m1 m2 m3 m4 m5 m6 m7 m8 m9 m10 : Nat) (th now : Int32) (n : Nat) (rf : Int32) (X : AF) (sl tt sm hs lt : Nat → Int32) (hA0 : aok X n) (b t k : Int32) (hbad : (win b (nI 0) (nI 19) && (win t (nI 0) (nI 10000) && win k (nI 0) (nI 10000))) = false) : Ci (S := Unit) l y_M_place (Cond.code y_M_place c_M_place 4 (some .int) :: WD) rm_M_place D vwCl [(cA, .int)] nws [.ref m0, .int b, .int t, .int k] [(m0, .inr (6, [.int th, .int now, .int (nI n), .int rf, .ref m1, .ref m2, .ref m3, .ref m4, .ref m5, .ref m6, .ref m7, .ref m8, .ref m9, .ref m10])), (m1, .inl (cA, 80, .inl (X 0))), (m2, .inl (cA, 80, .inl (X 1))), (m3, .inl (cA, 80, .inl (X 2))), (m4, .inl (cA, 80, .inl (X 3))), (m5, .inl (cA, 80, .inl (X 4))), (m6, .inl (cA, 20, .inl sl)), (m7, .inl (cA, 10, .inl tt)), (m8, .inl (cA, 10, .inl sm)), (m9, .inl (cA, 10, .inl hs)), (m10, .inl (cA, 64, .inl lt))] 0 0 (fun r _ => r = nI 0) (fun _ => [(m0, .inr (6, [.int (nI 1), .int now, .int (nI n), .int rf, .ref m1, .ref m2, .ref m3, .ref m4, .ref m5, .ref m6, .ref m7, .ref m8, .ref m9, .ref m10])), (m1, .inl (cA, 80, .inl (X 0))), (m2, .inl (cA, 80, .inl (X 1))), (m3, .inl (cA, 80, .inl (X 2))), (m4, .inl (cA, 80, .inl (X 3))), (m5, .inl (cA, 80, .inl (X 4))), (m6, .inl (cA, 20, .inl sl)), (m7, .inl (cA, 10, .inl tt)), (m8, .inl (cA, 10, .inl sm)), (m9, .inl (cA, 10, .inl hs)), (m10, .inl (cA, 64, .inl lt))]) := by
  refine Ci.of (cc := c_M_place) (nL := 4) (lv := [(0, .ref m0), (1, .int b), (2, .int t), (3, .int k)]) (by decide) rfl (Nat.le_of_ble_eq_true rfl) rfl ?_
  intro p e s m args below meth cd A Q F hK hN hA ret
  refine j_aloadn F d_M_place_0 0 rfl rfl ?_
  refine j_iloadn F d_M_place_1 1 rfl rfl ?_
  refine j_iconst (v := nI 0) F d_M_place_2 (by decide) ?_
  refine j_bipush (v := nI 19) F d_M_place_3 (by decide) ?_
  refine j_goi (wc := []) (wr := [(m0, .inr (6, [.int th, .int now, .int (nI n), .int rf, .ref m1, .ref m2, .ref m3, .ref m4, .ref m5, .ref m6, .ref m7, .ref m8, .ref m9, .ref m10])), (m1, .inl (cA, 80, .inl (X 0))), (m2, .inl (cA, 80, .inl (X 1))), (m3, .inl (cA, 80, .inl (X 2))), (m4, .inl (cA, 80, .inl (X 3))), (m5, .inl (cA, 80, .inl (X 4))), (m6, .inl (cA, 20, .inl sl)), (m7, .inl (cA, 10, .inl tt)), (m8, .inl (cA, 10, .inl sm)), (m9, .inl (cA, 10, .inl hs)), (m10, .inl (cA, 64, .inl lt))]) hA [] [0, 1, 2, 3, 4, 5, 6, 7, 8, 9, 10] rfl rfl (by decide) (by decide) (fun H locs ls hP hD hl => va_runS (As := [.int b, .int (nI 0), .int (nI 19)]) (rest := [.ref m0]) F (ct_M_in l D cA b (nI 0) (nI 19) H.size) ⟨callB_of 3 F.2.2.2.2 (gd k_523) rfl rfl rfl (F.2.2.2.2 _ (wm k_7)) (F.2.2.2.2 _ (wm k_521)) (by decide +kernel) ⟨by decide, by decide⟩, F.2.2.2.2 _ (wm k_522)⟩ (pre_S hK hN hP hD [] rfl (by decide)) rfl rfl hl.1 rfl (lv_room (Nat.le_of_ble_eq_true rfl)) d_M_place_5 ⟨by decide, by decide⟩) (fun r5 u5 hw5 => ?_)
  subst hw5
  refine j_ws (ws' := [(m0, .inr (6, [.int th, .int now, .int (nI n), .int rf, .ref m1, .ref m2, .ref m3, .ref m4, .ref m5, .ref m6, .ref m7, .ref m8, .ref m9, .ref m10])), (m1, .inl (cA, 80, .inl (X 0))), (m2, .inl (cA, 80, .inl (X 1))), (m3, .inl (cA, 80, .inl (X 2))), (m4, .inl (cA, 80, .inl (X 3))), (m5, .inl (cA, 80, .inl (X 4))), (m6, .inl (cA, 20, .inl sl)), (m7, .inl (cA, 10, .inl tt)), (m8, .inl (cA, 10, .inl sm)), (m9, .inl (cA, 10, .inl hs)), (m10, .inl (cA, 64, .inl lt))]) [0, 1, 2, 3, 4, 5, 6, 7, 8, 9, 10] (by decide) rfl ?_
  refine j_iloadn F d_M_place_8 2 rfl rfl ?_
  refine j_iloadn F d_M_place_9 3 rfl rfl ?_
  refine j_goi (wc := [(m0, .inr (6, [.int th, .int now, .int (nI n), .int rf, .ref m1, .ref m2, .ref m3, .ref m4, .ref m5, .ref m6, .ref m7, .ref m8, .ref m9, .ref m10])), (m1, .inl (cA, 80, .inl (X 0))), (m2, .inl (cA, 80, .inl (X 1))), (m3, .inl (cA, 80, .inl (X 2))), (m4, .inl (cA, 80, .inl (X 3))), (m5, .inl (cA, 80, .inl (X 4))), (m6, .inl (cA, 20, .inl sl)), (m7, .inl (cA, 10, .inl tt)), (m8, .inl (cA, 10, .inl sm)), (m9, .inl (cA, 10, .inl hs)), (m10, .inl (cA, 64, .inl lt))]) (wr := []) hA [0, 1, 2, 3, 4, 5, 6, 7, 8, 9, 10] [] rfl rfl (by decide) (by decide) (fun H locs ls hP hD hl => va_runV (As := [.int (bI (win b (nI 0) (nI 19))), .int t, .int k]) (rest := []) F (ct_M_isAsked_no l D cA m0 m1 m2 m3 m4 m5 m6 m7 m8 m9 m10 th now n rf X sl tt sm hs lt hA0 (win b (nI 0) (nI 19)) t k hbad H.size) ⟨callB_of 3 F.2.2.2.2 (gd k_540) rfl rfl rfl (F.2.2.2.2 _ (wm k_7)) (F.2.2.2.2 _ (wm k_537)) (by decide +kernel) ⟨by decide, by decide⟩, F.2.2.2.2 _ (wm k_539), F.2.2.2.2 _ (wm ks_26)⟩ (pre_V rfl hK hN hP hD [0, 1, 2, 3, 4, 5, 6, 7, 8, 9, 10] rfl (by decide) 0 rfl rfl) rfl rfl hl.1 rfl (lv_room (Nat.le_of_ble_eq_true rfl)) d_M_place_10 ⟨by decide, by decide⟩) (fun r10 u10 hw10 => ?_)
  subst hw10
  refine j_ws (ws' := [(m0, .inr (6, [.int (nI 1), .int now, .int (nI n), .int rf, .ref m1, .ref m2, .ref m3, .ref m4, .ref m5, .ref m6, .ref m7, .ref m8, .ref m9, .ref m10])), (m1, .inl (cA, 80, .inl (X 0))), (m2, .inl (cA, 80, .inl (X 1))), (m3, .inl (cA, 80, .inl (X 2))), (m4, .inl (cA, 80, .inl (X 3))), (m5, .inl (cA, 80, .inl (X 4))), (m6, .inl (cA, 20, .inl sl)), (m7, .inl (cA, 10, .inl tt)), (m8, .inl (cA, 10, .inl sm)), (m9, .inl (cA, 10, .inl hs)), (m10, .inl (cA, 64, .inl lt))]) [0, 1, 2, 3, 4, 5, 6, 7, 8, 9, 10] (by decide) rfl ?_
  refine j_if_ne (tgt := 18) F d_M_place_13 (by decide) (fun c_13 => ?_) (fun c_13 => ?_)
  · exact absurd rfl c_13
  · refine j_iconst (v := nI 0) F d_M_place_16 (by decide) ?_
    exact ret _ _ _ _ _ _ () d_M_place_17 rfl (by decide) (by decide) rfl rfl

def rm_M_at : Room := { frames := 4, cells := 0, slots := 0, locals := 96 }
set_option maxHeartbeats 4000000 in
set_option maxRecDepth 100000 in
theorem ct_M_at_ok (l : Launch) (D : va_G) (cA : ClassId) (m0 m1 m2 m3 m4 m5 m6 m7 m8 m9 m10 : Nat) (th now : Int32) (n : Nat) (rf : Int32) (X : AF) (sl tt sm hs lt : Nat → Int32) (hA0 : aok X n) (b : Nat) (hb : b < 100) (t k : Int32) (ht : win t (nI 0) (nI 10000) = true) (hk : win k (nI 0) (nI 10000) = true) : Ci (S := Unit) l y_M_at (Cond.code y_M_at c_M_at 4 (some .int) :: WD) rm_M_at D vwCl [(cA, .int)] nws [.ref m0, .int (nI b), .int t, .int k] [(m0, .inr (6, [.int th, .int now, .int (nI n), .int rf, .ref m1, .ref m2, .ref m3, .ref m4, .ref m5, .ref m6, .ref m7, .ref m8, .ref m9, .ref m10])), (m1, .inl (cA, 80, .inl (X 0))), (m2, .inl (cA, 80, .inl (X 1))), (m3, .inl (cA, 80, .inl (X 2))), (m4, .inl (cA, 80, .inl (X 3))), (m5, .inl (cA, 80, .inl (X 4))), (m6, .inl (cA, 20, .inl sl)), (m7, .inl (cA, 10, .inl tt)), (m8, .inl (cA, 10, .inl sm)), (m9, .inl (cA, 10, .inl hs)), (m10, .inl (cA, 64, .inl lt))] 0 0 (fun r _ => bxP (slP X n t k) (nI b) r) (fun _ => [(m0, .inr (6, [.int (nI 0), .int now, .int (nI n), .int rf, .ref m1, .ref m2, .ref m3, .ref m4, .ref m5, .ref m6, .ref m7, .ref m8, .ref m9, .ref m10])), (m1, .inl (cA, 80, .inl (X 0))), (m2, .inl (cA, 80, .inl (X 1))), (m3, .inl (cA, 80, .inl (X 2))), (m4, .inl (cA, 80, .inl (X 3))), (m5, .inl (cA, 80, .inl (X 4))), (m6, .inl (cA, 20, .inl (slP X n t k))), (m7, .inl (cA, 10, .inl (ttP X n t k))), (m8, .inl (cA, 10, .inl (smP X n t k))), (m9, .inl (cA, 10, .inl hs)), (m10, .inl (cA, 64, .inl lt))]) := by
  refine Ci.of (cc := c_M_at) (nL := 4) (lv := [(0, .ref m0), (1, .int (nI b)), (2, .int t), (3, .int k)]) (by decide) rfl (Nat.le_of_ble_eq_true rfl) rfl ?_
  intro p e s m args below meth cd A Q F hK hN hA ret
  have h80 := hA0.1
  refine j_aloadn F d_M_at_0 0 rfl rfl ?_
  refine j_iloadn F d_M_at_1 1 rfl rfl ?_
  refine j_iconst (v := nI 0) F d_M_at_2 (by decide) ?_
  refine j_bipush (v := nI 99) F d_M_at_3 (by decide) ?_
  refine j_goi (wc := []) (wr := [(m0, .inr (6, [.int th, .int now, .int (nI n), .int rf, .ref m1, .ref m2, .ref m3, .ref m4, .ref m5, .ref m6, .ref m7, .ref m8, .ref m9, .ref m10])), (m1, .inl (cA, 80, .inl (X 0))), (m2, .inl (cA, 80, .inl (X 1))), (m3, .inl (cA, 80, .inl (X 2))), (m4, .inl (cA, 80, .inl (X 3))), (m5, .inl (cA, 80, .inl (X 4))), (m6, .inl (cA, 20, .inl sl)), (m7, .inl (cA, 10, .inl tt)), (m8, .inl (cA, 10, .inl sm)), (m9, .inl (cA, 10, .inl hs)), (m10, .inl (cA, 64, .inl lt))]) hA [] [0, 1, 2, 3, 4, 5, 6, 7, 8, 9, 10] rfl rfl (by decide) (by decide) (fun H locs ls hP hD hl => va_runS (As := [.int (nI b), .int (nI 0), .int (nI 99)]) (rest := [.ref m0]) F (ct_M_in l D cA (nI b) (nI 0) (nI 99) H.size) ⟨callB_of 3 F.2.2.2.2 (gd k_523) rfl rfl rfl (F.2.2.2.2 _ (wm k_7)) (F.2.2.2.2 _ (wm k_521)) (by decide +kernel) ⟨by decide, by decide⟩, F.2.2.2.2 _ (wm k_522)⟩ (pre_S hK hN hP hD [] rfl (by decide)) rfl rfl hl.1 rfl (lv_room (Nat.le_of_ble_eq_true rfl)) d_M_at_5 ⟨by decide, by decide⟩) (fun r5 u5 hw5 => ?_)
  subst hw5
  refine j_ws (ws' := [(m0, .inr (6, [.int th, .int now, .int (nI n), .int rf, .ref m1, .ref m2, .ref m3, .ref m4, .ref m5, .ref m6, .ref m7, .ref m8, .ref m9, .ref m10])), (m1, .inl (cA, 80, .inl (X 0))), (m2, .inl (cA, 80, .inl (X 1))), (m3, .inl (cA, 80, .inl (X 2))), (m4, .inl (cA, 80, .inl (X 3))), (m5, .inl (cA, 80, .inl (X 4))), (m6, .inl (cA, 20, .inl sl)), (m7, .inl (cA, 10, .inl tt)), (m8, .inl (cA, 10, .inl sm)), (m9, .inl (cA, 10, .inl hs)), (m10, .inl (cA, 64, .inl lt))]) [0, 1, 2, 3, 4, 5, 6, 7, 8, 9, 10] (by decide) rfl ?_
  refine j_iloadn F d_M_at_8 2 rfl rfl ?_
  refine j_iloadn F d_M_at_9 3 rfl rfl ?_
  refine j_goi (wc := [(m0, .inr (6, [.int th, .int now, .int (nI n), .int rf, .ref m1, .ref m2, .ref m3, .ref m4, .ref m5, .ref m6, .ref m7, .ref m8, .ref m9, .ref m10])), (m1, .inl (cA, 80, .inl (X 0))), (m2, .inl (cA, 80, .inl (X 1))), (m3, .inl (cA, 80, .inl (X 2))), (m4, .inl (cA, 80, .inl (X 3))), (m5, .inl (cA, 80, .inl (X 4))), (m6, .inl (cA, 20, .inl sl)), (m7, .inl (cA, 10, .inl tt)), (m8, .inl (cA, 10, .inl sm)), (m9, .inl (cA, 10, .inl hs)), (m10, .inl (cA, 64, .inl lt))]) (wr := []) hA [0, 1, 2, 3, 4, 5, 6, 7, 8, 9, 10] [] rfl rfl (by decide) (by decide) (fun H locs ls hP hD hl => va_runV (As := [.int (bI (win (nI b) (nI 0) (nI 99))), .int t, .int k]) (rest := []) F (ct_M_isAsked_ok l D cA m0 m1 m2 m3 m4 m5 m6 m7 m8 m9 m10 th now n rf X sl tt sm hs lt hA0 (win (nI b) (nI 0) (nI 99)) t k (by rw [win_of rfl (by omega) (by decide), ht, hk]; rfl) H.size) ⟨callB_of 3 F.2.2.2.2 (gd k_540) rfl rfl rfl (F.2.2.2.2 _ (wm k_7)) (F.2.2.2.2 _ (wm k_537)) (by decide +kernel) ⟨by decide, by decide⟩, F.2.2.2.2 _ (wm k_539), F.2.2.2.2 _ (wm ks_26)⟩ (pre_V rfl hK hN hP hD [0, 1, 2, 3, 4, 5, 6, 7, 8, 9, 10] rfl (by decide) 0 rfl rfl) rfl rfl hl.1 rfl (lv_room (Nat.le_of_ble_eq_true rfl)) d_M_at_10 ⟨by decide, by decide⟩) (fun r10 u10 hw10 => ?_)
  subst hw10
  refine j_ws (ws' := [(m0, .inr (6, [.int (nI 0), .int now, .int (nI n), .int rf, .ref m1, .ref m2, .ref m3, .ref m4, .ref m5, .ref m6, .ref m7, .ref m8, .ref m9, .ref m10])), (m1, .inl (cA, 80, .inl (X 0))), (m2, .inl (cA, 80, .inl (X 1))), (m3, .inl (cA, 80, .inl (X 2))), (m4, .inl (cA, 80, .inl (X 3))), (m5, .inl (cA, 80, .inl (X 4))), (m6, .inl (cA, 20, .inl sl)), (m7, .inl (cA, 10, .inl tt)), (m8, .inl (cA, 10, .inl sm)), (m9, .inl (cA, 10, .inl hs)), (m10, .inl (cA, 64, .inl lt))]) [0, 1, 2, 3, 4, 5, 6, 7, 8, 9, 10] (by decide) rfl ?_
  refine j_if_ne (tgt := 18) F d_M_at_13 (by decide) (fun c_13 => ?_) (fun c_13 => ?_)
  · refine j_aloadn F d_M_at_18 0 rfl rfl ?_
    refine j_iloadn F d_M_at_19 2 rfl rfl ?_
    refine j_iloadn F d_M_at_20 3 rfl rfl ?_
    refine j_gov (wc := [(m0, .inr (6, [.int (nI 0), .int now, .int (nI n), .int rf, .ref m1, .ref m2, .ref m3, .ref m4, .ref m5, .ref m6, .ref m7, .ref m8, .ref m9, .ref m10])), (m1, .inl (cA, 80, .inl (X 0))), (m2, .inl (cA, 80, .inl (X 1))), (m3, .inl (cA, 80, .inl (X 2))), (m4, .inl (cA, 80, .inl (X 3))), (m5, .inl (cA, 80, .inl (X 4))), (m6, .inl (cA, 20, .inl sl)), (m7, .inl (cA, 10, .inl tt)), (m8, .inl (cA, 10, .inl sm)), (m9, .inl (cA, 10, .inl hs)), (m10, .inl (cA, 64, .inl lt))]) (wr := []) hA [0, 1, 2, 3, 4, 5, 6, 7, 8, 9, 10] [] rfl rfl (by decide) (by decide) (fun H locs ls hP hD hl => va_runV (As := [.int t, .int k]) (rest := []) F (ct_M_finds l D cA m0 m1 m2 m3 m4 m5 m6 m7 m8 m9 m10 (nI 0) now n rf X sl tt sm hs lt hA0 t k  H.size) ⟨callB_of 2 F.2.2.2.2 (gd k_544) rfl rfl rfl (F.2.2.2.2 _ (wm k_7)) (F.2.2.2.2 _ (wm k_541)) (by decide +kernel) ⟨by decide, by decide⟩, F.2.2.2.2 _ (wm k_543), F.2.2.2.2 _ (wm ks_27)⟩ (pre_V rfl hK hN hP hD [0, 1, 2, 3, 4, 5, 6, 7, 8, 9, 10] rfl (by decide) 0 rfl rfl) rfl rfl hl.1 rfl (lv_room (Nat.le_of_ble_eq_true rfl)) d_M_at_21 ⟨by decide, by decide⟩) (fun u21 hw21 => ?_)
    refine j_ws (ws' := [(m0, .inr (6, [.int (nI 0), .int now, .int (nI n), .int rf, .ref m1, .ref m2, .ref m3, .ref m4, .ref m5, .ref m6, .ref m7, .ref m8, .ref m9, .ref m10])), (m1, .inl (cA, 80, .inl (X 0))), (m2, .inl (cA, 80, .inl (X 1))), (m3, .inl (cA, 80, .inl (X 2))), (m4, .inl (cA, 80, .inl (X 3))), (m5, .inl (cA, 80, .inl (X 4))), (m6, .inl (cA, 20, .inl (slP X n t k))), (m7, .inl (cA, 10, .inl (ttP X n t k))), (m8, .inl (cA, 10, .inl (smP X n t k))), (m9, .inl (cA, 10, .inl hs)), (m10, .inl (cA, 64, .inl lt))]) [0, 1, 2, 3, 4, 5, 6, 7, 8, 9, 10] (by decide) rfl ?_
    refine j_aloadn F d_M_at_24 0 rfl rfl ?_
    refine j_iloadn F d_M_at_25 1 rfl rfl ?_
    refine j_goi (wc := [(m0, .inr (6, [.int (nI 0), .int now, .int (nI n), .int rf, .ref m1, .ref m2, .ref m3, .ref m4, .ref m5, .ref m6, .ref m7, .ref m8, .ref m9, .ref m10])), (m1, .inl (cA, 80, .inl (X 0))), (m2, .inl (cA, 80, .inl (X 1))), (m3, .inl (cA, 80, .inl (X 2))), (m4, .inl (cA, 80, .inl (X 3))), (m5, .inl (cA, 80, .inl (X 4))), (m6, .inl (cA, 20, .inl (slP X n t k))), (m7, .inl (cA, 10, .inl (ttP X n t k))), (m8, .inl (cA, 10, .inl (smP X n t k))), (m9, .inl (cA, 10, .inl hs)), (m10, .inl (cA, 64, .inl lt))]) (wr := []) hA [0, 1, 2, 3, 4, 5, 6, 7, 8, 9, 10] [] rfl rfl (by decide) (by decide) (fun H locs ls hP hD hl => va_runV (As := [.int (nI b)]) (rest := []) F (ct_M_boxAt l D cA m0 m1 m2 m3 m4 m5 m6 m7 m8 m9 m10 (nI 0) now n rf X (slP X n t k) (ttP X n t k) (smP X n t k) hs lt hA0 (nI b)  H.size) ⟨callB_of 1 F.2.2.2.2 (gd k_568) rfl rfl rfl (F.2.2.2.2 _ (wm k_7)) (F.2.2.2.2 _ (wm k_565)) (by decide +kernel) ⟨by decide, by decide⟩, F.2.2.2.2 _ (wm k_567), F.2.2.2.2 _ (wm ks_33)⟩ (pre_V rfl hK hN hP hD [0, 1, 2, 3, 4, 5, 6, 7, 8, 9, 10] rfl (by decide) 0 rfl rfl) rfl rfl hl.1 rfl (lv_room (Nat.le_of_ble_eq_true rfl)) d_M_at_26 ⟨by decide, by decide⟩) (fun r26 u26 hw26 => ?_)
    refine j_ws (ws' := [(m0, .inr (6, [.int (nI 0), .int now, .int (nI n), .int rf, .ref m1, .ref m2, .ref m3, .ref m4, .ref m5, .ref m6, .ref m7, .ref m8, .ref m9, .ref m10])), (m1, .inl (cA, 80, .inl (X 0))), (m2, .inl (cA, 80, .inl (X 1))), (m3, .inl (cA, 80, .inl (X 2))), (m4, .inl (cA, 80, .inl (X 3))), (m5, .inl (cA, 80, .inl (X 4))), (m6, .inl (cA, 20, .inl (slP X n t k))), (m7, .inl (cA, 10, .inl (ttP X n t k))), (m8, .inl (cA, 10, .inl (smP X n t k))), (m9, .inl (cA, 10, .inl hs)), (m10, .inl (cA, 64, .inl lt))]) [0, 1, 2, 3, 4, 5, 6, 7, 8, 9, 10] (by decide) rfl ?_
    exact ret _ _ _ _ _ _ () d_M_at_29 rfl (by decide) (by decide) rfl hw26
  · exact absurd c_13 (by decide)

set_option maxHeartbeats 4000000 in
set_option maxRecDepth 100000 in
theorem ct_M_at_no (l : Launch) (D : va_G) (cA : ClassId) (m0 m1 m2 m3 m4 m5 m6 m7 m8 m9 m10 : Nat) (th now : Int32) (n : Nat) (rf : Int32) (X : AF) (sl tt sm hs lt : Nat → Int32) (hA0 : aok X n) (b t k : Int32) (hbad : (win b (nI 0) (nI 99) && (win t (nI 0) (nI 10000) && win k (nI 0) (nI 10000))) = false) : Ci (S := Unit) l y_M_at (Cond.code y_M_at c_M_at 4 (some .int) :: WD) rm_M_at D vwCl [(cA, .int)] nws [.ref m0, .int b, .int t, .int k] [(m0, .inr (6, [.int th, .int now, .int (nI n), .int rf, .ref m1, .ref m2, .ref m3, .ref m4, .ref m5, .ref m6, .ref m7, .ref m8, .ref m9, .ref m10])), (m1, .inl (cA, 80, .inl (X 0))), (m2, .inl (cA, 80, .inl (X 1))), (m3, .inl (cA, 80, .inl (X 2))), (m4, .inl (cA, 80, .inl (X 3))), (m5, .inl (cA, 80, .inl (X 4))), (m6, .inl (cA, 20, .inl sl)), (m7, .inl (cA, 10, .inl tt)), (m8, .inl (cA, 10, .inl sm)), (m9, .inl (cA, 10, .inl hs)), (m10, .inl (cA, 64, .inl lt))] 0 0 (fun r _ => r = nI 0) (fun _ => [(m0, .inr (6, [.int (nI 1), .int now, .int (nI n), .int rf, .ref m1, .ref m2, .ref m3, .ref m4, .ref m5, .ref m6, .ref m7, .ref m8, .ref m9, .ref m10])), (m1, .inl (cA, 80, .inl (X 0))), (m2, .inl (cA, 80, .inl (X 1))), (m3, .inl (cA, 80, .inl (X 2))), (m4, .inl (cA, 80, .inl (X 3))), (m5, .inl (cA, 80, .inl (X 4))), (m6, .inl (cA, 20, .inl sl)), (m7, .inl (cA, 10, .inl tt)), (m8, .inl (cA, 10, .inl sm)), (m9, .inl (cA, 10, .inl hs)), (m10, .inl (cA, 64, .inl lt))]) := by
  refine Ci.of (cc := c_M_at) (nL := 4) (lv := [(0, .ref m0), (1, .int b), (2, .int t), (3, .int k)]) (by decide) rfl (Nat.le_of_ble_eq_true rfl) rfl ?_
  intro p e s m args below meth cd A Q F hK hN hA ret
  refine j_aloadn F d_M_at_0 0 rfl rfl ?_
  refine j_iloadn F d_M_at_1 1 rfl rfl ?_
  refine j_iconst (v := nI 0) F d_M_at_2 (by decide) ?_
  refine j_bipush (v := nI 99) F d_M_at_3 (by decide) ?_
  refine j_goi (wc := []) (wr := [(m0, .inr (6, [.int th, .int now, .int (nI n), .int rf, .ref m1, .ref m2, .ref m3, .ref m4, .ref m5, .ref m6, .ref m7, .ref m8, .ref m9, .ref m10])), (m1, .inl (cA, 80, .inl (X 0))), (m2, .inl (cA, 80, .inl (X 1))), (m3, .inl (cA, 80, .inl (X 2))), (m4, .inl (cA, 80, .inl (X 3))), (m5, .inl (cA, 80, .inl (X 4))), (m6, .inl (cA, 20, .inl sl)), (m7, .inl (cA, 10, .inl tt)), (m8, .inl (cA, 10, .inl sm)), (m9, .inl (cA, 10, .inl hs)), (m10, .inl (cA, 64, .inl lt))]) hA [] [0, 1, 2, 3, 4, 5, 6, 7, 8, 9, 10] rfl rfl (by decide) (by decide) (fun H locs ls hP hD hl => va_runS (As := [.int b, .int (nI 0), .int (nI 99)]) (rest := [.ref m0]) F (ct_M_in l D cA b (nI 0) (nI 99) H.size) ⟨callB_of 3 F.2.2.2.2 (gd k_523) rfl rfl rfl (F.2.2.2.2 _ (wm k_7)) (F.2.2.2.2 _ (wm k_521)) (by decide +kernel) ⟨by decide, by decide⟩, F.2.2.2.2 _ (wm k_522)⟩ (pre_S hK hN hP hD [] rfl (by decide)) rfl rfl hl.1 rfl (lv_room (Nat.le_of_ble_eq_true rfl)) d_M_at_5 ⟨by decide, by decide⟩) (fun r5 u5 hw5 => ?_)
  subst hw5
  refine j_ws (ws' := [(m0, .inr (6, [.int th, .int now, .int (nI n), .int rf, .ref m1, .ref m2, .ref m3, .ref m4, .ref m5, .ref m6, .ref m7, .ref m8, .ref m9, .ref m10])), (m1, .inl (cA, 80, .inl (X 0))), (m2, .inl (cA, 80, .inl (X 1))), (m3, .inl (cA, 80, .inl (X 2))), (m4, .inl (cA, 80, .inl (X 3))), (m5, .inl (cA, 80, .inl (X 4))), (m6, .inl (cA, 20, .inl sl)), (m7, .inl (cA, 10, .inl tt)), (m8, .inl (cA, 10, .inl sm)), (m9, .inl (cA, 10, .inl hs)), (m10, .inl (cA, 64, .inl lt))]) [0, 1, 2, 3, 4, 5, 6, 7, 8, 9, 10] (by decide) rfl ?_
  refine j_iloadn F d_M_at_8 2 rfl rfl ?_
  refine j_iloadn F d_M_at_9 3 rfl rfl ?_
  refine j_goi (wc := [(m0, .inr (6, [.int th, .int now, .int (nI n), .int rf, .ref m1, .ref m2, .ref m3, .ref m4, .ref m5, .ref m6, .ref m7, .ref m8, .ref m9, .ref m10])), (m1, .inl (cA, 80, .inl (X 0))), (m2, .inl (cA, 80, .inl (X 1))), (m3, .inl (cA, 80, .inl (X 2))), (m4, .inl (cA, 80, .inl (X 3))), (m5, .inl (cA, 80, .inl (X 4))), (m6, .inl (cA, 20, .inl sl)), (m7, .inl (cA, 10, .inl tt)), (m8, .inl (cA, 10, .inl sm)), (m9, .inl (cA, 10, .inl hs)), (m10, .inl (cA, 64, .inl lt))]) (wr := []) hA [0, 1, 2, 3, 4, 5, 6, 7, 8, 9, 10] [] rfl rfl (by decide) (by decide) (fun H locs ls hP hD hl => va_runV (As := [.int (bI (win b (nI 0) (nI 99))), .int t, .int k]) (rest := []) F (ct_M_isAsked_no l D cA m0 m1 m2 m3 m4 m5 m6 m7 m8 m9 m10 th now n rf X sl tt sm hs lt hA0 (win b (nI 0) (nI 99)) t k hbad H.size) ⟨callB_of 3 F.2.2.2.2 (gd k_540) rfl rfl rfl (F.2.2.2.2 _ (wm k_7)) (F.2.2.2.2 _ (wm k_537)) (by decide +kernel) ⟨by decide, by decide⟩, F.2.2.2.2 _ (wm k_539), F.2.2.2.2 _ (wm ks_26)⟩ (pre_V rfl hK hN hP hD [0, 1, 2, 3, 4, 5, 6, 7, 8, 9, 10] rfl (by decide) 0 rfl rfl) rfl rfl hl.1 rfl (lv_room (Nat.le_of_ble_eq_true rfl)) d_M_at_10 ⟨by decide, by decide⟩) (fun r10 u10 hw10 => ?_)
  subst hw10
  refine j_ws (ws' := [(m0, .inr (6, [.int (nI 1), .int now, .int (nI n), .int rf, .ref m1, .ref m2, .ref m3, .ref m4, .ref m5, .ref m6, .ref m7, .ref m8, .ref m9, .ref m10])), (m1, .inl (cA, 80, .inl (X 0))), (m2, .inl (cA, 80, .inl (X 1))), (m3, .inl (cA, 80, .inl (X 2))), (m4, .inl (cA, 80, .inl (X 3))), (m5, .inl (cA, 80, .inl (X 4))), (m6, .inl (cA, 20, .inl sl)), (m7, .inl (cA, 10, .inl tt)), (m8, .inl (cA, 10, .inl sm)), (m9, .inl (cA, 10, .inl hs)), (m10, .inl (cA, 64, .inl lt))]) [0, 1, 2, 3, 4, 5, 6, 7, 8, 9, 10] (by decide) rfl ?_
  refine j_if_ne (tgt := 18) F d_M_at_13 (by decide) (fun c_13 => ?_) (fun c_13 => ?_)
  · exact absurd rfl c_13
  · refine j_iconst (v := nI 0) F d_M_at_16 (by decide) ?_
    exact ret _ _ _ _ _ _ () d_M_at_17 rfl (by decide) (by decide) rfl rfl

def rm_M_state : Room := { frames := 4, cells := 0, slots := 0, locals := 96 }
set_option maxHeartbeats 4000000 in
set_option maxRecDepth 100000 in
theorem ct_M_state_ok (l : Launch) (D : va_G) (cA : ClassId) (m0 m1 m2 m3 m4 m5 m6 m7 m8 m9 m10 : Nat) (th now : Int32) (n : Nat) (rf : Int32) (X : AF) (sl tt sm hs lt : Nat → Int32) (hA0 : aok X n) (b : Nat) (hb : b < 10) (t k : Int32) (ht : win t (nI 0) (nI 10000) = true) (hk : win k (nI 0) (nI 10000) = true) : Ci (S := Unit) l y_M_state (Cond.code y_M_state c_M_state 4 (some .int) :: WD) rm_M_state D vwCl [(cA, .int)] nws [.ref m0, .int (nI b), .int t, .int k] [(m0, .inr (6, [.int th, .int now, .int (nI n), .int rf, .ref m1, .ref m2, .ref m3, .ref m4, .ref m5, .ref m6, .ref m7, .ref m8, .ref m9, .ref m10])), (m1, .inl (cA, 80, .inl (X 0))), (m2, .inl (cA, 80, .inl (X 1))), (m3, .inl (cA, 80, .inl (X 2))), (m4, .inl (cA, 80, .inl (X 3))), (m5, .inl (cA, 80, .inl (X 4))), (m6, .inl (cA, 20, .inl sl)), (m7, .inl (cA, 10, .inl tt)), (m8, .inl (cA, 10, .inl sm)), (m9, .inl (cA, 10, .inl hs)), (m10, .inl (cA, 64, .inl lt))] 0 0 (fun r _ => r = ttP X n t k b) (fun _ => [(m0, .inr (6, [.int (nI 0), .int now, .int (nI n), .int rf, .ref m1, .ref m2, .ref m3, .ref m4, .ref m5, .ref m6, .ref m7, .ref m8, .ref m9, .ref m10])), (m1, .inl (cA, 80, .inl (X 0))), (m2, .inl (cA, 80, .inl (X 1))), (m3, .inl (cA, 80, .inl (X 2))), (m4, .inl (cA, 80, .inl (X 3))), (m5, .inl (cA, 80, .inl (X 4))), (m6, .inl (cA, 20, .inl (slP X n t k))), (m7, .inl (cA, 10, .inl (ttP X n t k))), (m8, .inl (cA, 10, .inl (smP X n t k))), (m9, .inl (cA, 10, .inl hs)), (m10, .inl (cA, 64, .inl lt))]) := by
  refine Ci.of (cc := c_M_state) (nL := 4) (lv := [(0, .ref m0), (1, .int (nI b)), (2, .int t), (3, .int k)]) (by decide) rfl (Nat.le_of_ble_eq_true rfl) rfl ?_
  intro p e s m args below meth cd A Q F hK hN hA ret
  have h80 := hA0.1
  refine j_aloadn F d_M_state_0 0 rfl rfl ?_
  refine j_iloadn F d_M_state_1 1 rfl rfl ?_
  refine j_iconst (v := nI 0) F d_M_state_2 (by decide) ?_
  refine j_bipush (v := nI 9) F d_M_state_3 (by decide) ?_
  refine j_goi (wc := []) (wr := [(m0, .inr (6, [.int th, .int now, .int (nI n), .int rf, .ref m1, .ref m2, .ref m3, .ref m4, .ref m5, .ref m6, .ref m7, .ref m8, .ref m9, .ref m10])), (m1, .inl (cA, 80, .inl (X 0))), (m2, .inl (cA, 80, .inl (X 1))), (m3, .inl (cA, 80, .inl (X 2))), (m4, .inl (cA, 80, .inl (X 3))), (m5, .inl (cA, 80, .inl (X 4))), (m6, .inl (cA, 20, .inl sl)), (m7, .inl (cA, 10, .inl tt)), (m8, .inl (cA, 10, .inl sm)), (m9, .inl (cA, 10, .inl hs)), (m10, .inl (cA, 64, .inl lt))]) hA [] [0, 1, 2, 3, 4, 5, 6, 7, 8, 9, 10] rfl rfl (by decide) (by decide) (fun H locs ls hP hD hl => va_runS (As := [.int (nI b), .int (nI 0), .int (nI 9)]) (rest := [.ref m0]) F (ct_M_in l D cA (nI b) (nI 0) (nI 9) H.size) ⟨callB_of 3 F.2.2.2.2 (gd k_523) rfl rfl rfl (F.2.2.2.2 _ (wm k_7)) (F.2.2.2.2 _ (wm k_521)) (by decide +kernel) ⟨by decide, by decide⟩, F.2.2.2.2 _ (wm k_522)⟩ (pre_S hK hN hP hD [] rfl (by decide)) rfl rfl hl.1 rfl (lv_room (Nat.le_of_ble_eq_true rfl)) d_M_state_5 ⟨by decide, by decide⟩) (fun r5 u5 hw5 => ?_)
  subst hw5
  refine j_ws (ws' := [(m0, .inr (6, [.int th, .int now, .int (nI n), .int rf, .ref m1, .ref m2, .ref m3, .ref m4, .ref m5, .ref m6, .ref m7, .ref m8, .ref m9, .ref m10])), (m1, .inl (cA, 80, .inl (X 0))), (m2, .inl (cA, 80, .inl (X 1))), (m3, .inl (cA, 80, .inl (X 2))), (m4, .inl (cA, 80, .inl (X 3))), (m5, .inl (cA, 80, .inl (X 4))), (m6, .inl (cA, 20, .inl sl)), (m7, .inl (cA, 10, .inl tt)), (m8, .inl (cA, 10, .inl sm)), (m9, .inl (cA, 10, .inl hs)), (m10, .inl (cA, 64, .inl lt))]) [0, 1, 2, 3, 4, 5, 6, 7, 8, 9, 10] (by decide) rfl ?_
  refine j_iloadn F d_M_state_8 2 rfl rfl ?_
  refine j_iloadn F d_M_state_9 3 rfl rfl ?_
  refine j_goi (wc := [(m0, .inr (6, [.int th, .int now, .int (nI n), .int rf, .ref m1, .ref m2, .ref m3, .ref m4, .ref m5, .ref m6, .ref m7, .ref m8, .ref m9, .ref m10])), (m1, .inl (cA, 80, .inl (X 0))), (m2, .inl (cA, 80, .inl (X 1))), (m3, .inl (cA, 80, .inl (X 2))), (m4, .inl (cA, 80, .inl (X 3))), (m5, .inl (cA, 80, .inl (X 4))), (m6, .inl (cA, 20, .inl sl)), (m7, .inl (cA, 10, .inl tt)), (m8, .inl (cA, 10, .inl sm)), (m9, .inl (cA, 10, .inl hs)), (m10, .inl (cA, 64, .inl lt))]) (wr := []) hA [0, 1, 2, 3, 4, 5, 6, 7, 8, 9, 10] [] rfl rfl (by decide) (by decide) (fun H locs ls hP hD hl => va_runV (As := [.int (bI (win (nI b) (nI 0) (nI 9))), .int t, .int k]) (rest := []) F (ct_M_isAsked_ok l D cA m0 m1 m2 m3 m4 m5 m6 m7 m8 m9 m10 th now n rf X sl tt sm hs lt hA0 (win (nI b) (nI 0) (nI 9)) t k (by rw [win_of rfl (by omega) (by decide), ht, hk]; rfl) H.size) ⟨callB_of 3 F.2.2.2.2 (gd k_540) rfl rfl rfl (F.2.2.2.2 _ (wm k_7)) (F.2.2.2.2 _ (wm k_537)) (by decide +kernel) ⟨by decide, by decide⟩, F.2.2.2.2 _ (wm k_539), F.2.2.2.2 _ (wm ks_26)⟩ (pre_V rfl hK hN hP hD [0, 1, 2, 3, 4, 5, 6, 7, 8, 9, 10] rfl (by decide) 0 rfl rfl) rfl rfl hl.1 rfl (lv_room (Nat.le_of_ble_eq_true rfl)) d_M_state_10 ⟨by decide, by decide⟩) (fun r10 u10 hw10 => ?_)
  subst hw10
  refine j_ws (ws' := [(m0, .inr (6, [.int (nI 0), .int now, .int (nI n), .int rf, .ref m1, .ref m2, .ref m3, .ref m4, .ref m5, .ref m6, .ref m7, .ref m8, .ref m9, .ref m10])), (m1, .inl (cA, 80, .inl (X 0))), (m2, .inl (cA, 80, .inl (X 1))), (m3, .inl (cA, 80, .inl (X 2))), (m4, .inl (cA, 80, .inl (X 3))), (m5, .inl (cA, 80, .inl (X 4))), (m6, .inl (cA, 20, .inl sl)), (m7, .inl (cA, 10, .inl tt)), (m8, .inl (cA, 10, .inl sm)), (m9, .inl (cA, 10, .inl hs)), (m10, .inl (cA, 64, .inl lt))]) [0, 1, 2, 3, 4, 5, 6, 7, 8, 9, 10] (by decide) rfl ?_
  refine j_if_ne (tgt := 18) F d_M_state_13 (by decide) (fun c_13 => ?_) (fun c_13 => ?_)
  · refine j_aloadn F d_M_state_18 0 rfl rfl ?_
    refine j_iloadn F d_M_state_19 2 rfl rfl ?_
    refine j_iloadn F d_M_state_20 3 rfl rfl ?_
    refine j_gov (wc := [(m0, .inr (6, [.int (nI 0), .int now, .int (nI n), .int rf, .ref m1, .ref m2, .ref m3, .ref m4, .ref m5, .ref m6, .ref m7, .ref m8, .ref m9, .ref m10])), (m1, .inl (cA, 80, .inl (X 0))), (m2, .inl (cA, 80, .inl (X 1))), (m3, .inl (cA, 80, .inl (X 2))), (m4, .inl (cA, 80, .inl (X 3))), (m5, .inl (cA, 80, .inl (X 4))), (m6, .inl (cA, 20, .inl sl)), (m7, .inl (cA, 10, .inl tt)), (m8, .inl (cA, 10, .inl sm)), (m9, .inl (cA, 10, .inl hs)), (m10, .inl (cA, 64, .inl lt))]) (wr := []) hA [0, 1, 2, 3, 4, 5, 6, 7, 8, 9, 10] [] rfl rfl (by decide) (by decide) (fun H locs ls hP hD hl => va_runV (As := [.int t, .int k]) (rest := []) F (ct_M_finds l D cA m0 m1 m2 m3 m4 m5 m6 m7 m8 m9 m10 (nI 0) now n rf X sl tt sm hs lt hA0 t k  H.size) ⟨callB_of 2 F.2.2.2.2 (gd k_544) rfl rfl rfl (F.2.2.2.2 _ (wm k_7)) (F.2.2.2.2 _ (wm k_541)) (by decide +kernel) ⟨by decide, by decide⟩, F.2.2.2.2 _ (wm k_543), F.2.2.2.2 _ (wm ks_27)⟩ (pre_V rfl hK hN hP hD [0, 1, 2, 3, 4, 5, 6, 7, 8, 9, 10] rfl (by decide) 0 rfl rfl) rfl rfl hl.1 rfl (lv_room (Nat.le_of_ble_eq_true rfl)) d_M_state_21 ⟨by decide, by decide⟩) (fun u21 hw21 => ?_)
    refine j_ws (ws' := [(m0, .inr (6, [.int (nI 0), .int now, .int (nI n), .int rf, .ref m1, .ref m2, .ref m3, .ref m4, .ref m5, .ref m6, .ref m7, .ref m8, .ref m9, .ref m10])), (m1, .inl (cA, 80, .inl (X 0))), (m2, .inl (cA, 80, .inl (X 1))), (m3, .inl (cA, 80, .inl (X 2))), (m4, .inl (cA, 80, .inl (X 3))), (m5, .inl (cA, 80, .inl (X 4))), (m6, .inl (cA, 20, .inl (slP X n t k))), (m7, .inl (cA, 10, .inl (ttP X n t k))), (m8, .inl (cA, 10, .inl (smP X n t k))), (m9, .inl (cA, 10, .inl hs)), (m10, .inl (cA, 64, .inl lt))]) [0, 1, 2, 3, 4, 5, 6, 7, 8, 9, 10] (by decide) rfl ?_
    refine j_aloadn F d_M_state_24 0 rfl rfl ?_
    refine j_get (ci := 6) (v := .ref m7) F in_M hK 0 rfl rfl 10 (by decide) (wm k_476) rfl d_M_state_25 ?_
    refine j_iloadn F d_M_state_28 1 rfl rfl ?_
    refine j_iald (v := (ttP X n t k) b) F hK 7 0 rfl rfl (by omega) (by decide) d_M_state_29 rfl ?_
    exact ret _ _ _ _ _ _ () d_M_state_30 rfl (by decide) (by decide) rfl rfl
  · exact absurd c_13 (by decide)

set_option maxHeartbeats 4000000 in
set_option maxRecDepth 100000 in
theorem ct_M_state_no (l : Launch) (D : va_G) (cA : ClassId) (m0 m1 m2 m3 m4 m5 m6 m7 m8 m9 m10 : Nat) (th now : Int32) (n : Nat) (rf : Int32) (X : AF) (sl tt sm hs lt : Nat → Int32) (hA0 : aok X n) (b t k : Int32) (hbad : (win b (nI 0) (nI 9) && (win t (nI 0) (nI 10000) && win k (nI 0) (nI 10000))) = false) : Ci (S := Unit) l y_M_state (Cond.code y_M_state c_M_state 4 (some .int) :: WD) rm_M_state D vwCl [(cA, .int)] nws [.ref m0, .int b, .int t, .int k] [(m0, .inr (6, [.int th, .int now, .int (nI n), .int rf, .ref m1, .ref m2, .ref m3, .ref m4, .ref m5, .ref m6, .ref m7, .ref m8, .ref m9, .ref m10])), (m1, .inl (cA, 80, .inl (X 0))), (m2, .inl (cA, 80, .inl (X 1))), (m3, .inl (cA, 80, .inl (X 2))), (m4, .inl (cA, 80, .inl (X 3))), (m5, .inl (cA, 80, .inl (X 4))), (m6, .inl (cA, 20, .inl sl)), (m7, .inl (cA, 10, .inl tt)), (m8, .inl (cA, 10, .inl sm)), (m9, .inl (cA, 10, .inl hs)), (m10, .inl (cA, 64, .inl lt))] 0 0 (fun r _ => r = nI 0) (fun _ => [(m0, .inr (6, [.int (nI 1), .int now, .int (nI n), .int rf, .ref m1, .ref m2, .ref m3, .ref m4, .ref m5, .ref m6, .ref m7, .ref m8, .ref m9, .ref m10])), (m1, .inl (cA, 80, .inl (X 0))), (m2, .inl (cA, 80, .inl (X 1))), (m3, .inl (cA, 80, .inl (X 2))), (m4, .inl (cA, 80, .inl (X 3))), (m5, .inl (cA, 80, .inl (X 4))), (m6, .inl (cA, 20, .inl sl)), (m7, .inl (cA, 10, .inl tt)), (m8, .inl (cA, 10, .inl sm)), (m9, .inl (cA, 10, .inl hs)), (m10, .inl (cA, 64, .inl lt))]) := by
  refine Ci.of (cc := c_M_state) (nL := 4) (lv := [(0, .ref m0), (1, .int b), (2, .int t), (3, .int k)]) (by decide) rfl (Nat.le_of_ble_eq_true rfl) rfl ?_
  intro p e s m args below meth cd A Q F hK hN hA ret
  refine j_aloadn F d_M_state_0 0 rfl rfl ?_
  refine j_iloadn F d_M_state_1 1 rfl rfl ?_
  refine j_iconst (v := nI 0) F d_M_state_2 (by decide) ?_
  refine j_bipush (v := nI 9) F d_M_state_3 (by decide) ?_
  refine j_goi (wc := []) (wr := [(m0, .inr (6, [.int th, .int now, .int (nI n), .int rf, .ref m1, .ref m2, .ref m3, .ref m4, .ref m5, .ref m6, .ref m7, .ref m8, .ref m9, .ref m10])), (m1, .inl (cA, 80, .inl (X 0))), (m2, .inl (cA, 80, .inl (X 1))), (m3, .inl (cA, 80, .inl (X 2))), (m4, .inl (cA, 80, .inl (X 3))), (m5, .inl (cA, 80, .inl (X 4))), (m6, .inl (cA, 20, .inl sl)), (m7, .inl (cA, 10, .inl tt)), (m8, .inl (cA, 10, .inl sm)), (m9, .inl (cA, 10, .inl hs)), (m10, .inl (cA, 64, .inl lt))]) hA [] [0, 1, 2, 3, 4, 5, 6, 7, 8, 9, 10] rfl rfl (by decide) (by decide) (fun H locs ls hP hD hl => va_runS (As := [.int b, .int (nI 0), .int (nI 9)]) (rest := [.ref m0]) F (ct_M_in l D cA b (nI 0) (nI 9) H.size) ⟨callB_of 3 F.2.2.2.2 (gd k_523) rfl rfl rfl (F.2.2.2.2 _ (wm k_7)) (F.2.2.2.2 _ (wm k_521)) (by decide +kernel) ⟨by decide, by decide⟩, F.2.2.2.2 _ (wm k_522)⟩ (pre_S hK hN hP hD [] rfl (by decide)) rfl rfl hl.1 rfl (lv_room (Nat.le_of_ble_eq_true rfl)) d_M_state_5 ⟨by decide, by decide⟩) (fun r5 u5 hw5 => ?_)
  subst hw5
  refine j_ws (ws' := [(m0, .inr (6, [.int th, .int now, .int (nI n), .int rf, .ref m1, .ref m2, .ref m3, .ref m4, .ref m5, .ref m6, .ref m7, .ref m8, .ref m9, .ref m10])), (m1, .inl (cA, 80, .inl (X 0))), (m2, .inl (cA, 80, .inl (X 1))), (m3, .inl (cA, 80, .inl (X 2))), (m4, .inl (cA, 80, .inl (X 3))), (m5, .inl (cA, 80, .inl (X 4))), (m6, .inl (cA, 20, .inl sl)), (m7, .inl (cA, 10, .inl tt)), (m8, .inl (cA, 10, .inl sm)), (m9, .inl (cA, 10, .inl hs)), (m10, .inl (cA, 64, .inl lt))]) [0, 1, 2, 3, 4, 5, 6, 7, 8, 9, 10] (by decide) rfl ?_
  refine j_iloadn F d_M_state_8 2 rfl rfl ?_
  refine j_iloadn F d_M_state_9 3 rfl rfl ?_
  refine j_goi (wc := [(m0, .inr (6, [.int th, .int now, .int (nI n), .int rf, .ref m1, .ref m2, .ref m3, .ref m4, .ref m5, .ref m6, .ref m7, .ref m8, .ref m9, .ref m10])), (m1, .inl (cA, 80, .inl (X 0))), (m2, .inl (cA, 80, .inl (X 1))), (m3, .inl (cA, 80, .inl (X 2))), (m4, .inl (cA, 80, .inl (X 3))), (m5, .inl (cA, 80, .inl (X 4))), (m6, .inl (cA, 20, .inl sl)), (m7, .inl (cA, 10, .inl tt)), (m8, .inl (cA, 10, .inl sm)), (m9, .inl (cA, 10, .inl hs)), (m10, .inl (cA, 64, .inl lt))]) (wr := []) hA [0, 1, 2, 3, 4, 5, 6, 7, 8, 9, 10] [] rfl rfl (by decide) (by decide) (fun H locs ls hP hD hl => va_runV (As := [.int (bI (win b (nI 0) (nI 9))), .int t, .int k]) (rest := []) F (ct_M_isAsked_no l D cA m0 m1 m2 m3 m4 m5 m6 m7 m8 m9 m10 th now n rf X sl tt sm hs lt hA0 (win b (nI 0) (nI 9)) t k hbad H.size) ⟨callB_of 3 F.2.2.2.2 (gd k_540) rfl rfl rfl (F.2.2.2.2 _ (wm k_7)) (F.2.2.2.2 _ (wm k_537)) (by decide +kernel) ⟨by decide, by decide⟩, F.2.2.2.2 _ (wm k_539), F.2.2.2.2 _ (wm ks_26)⟩ (pre_V rfl hK hN hP hD [0, 1, 2, 3, 4, 5, 6, 7, 8, 9, 10] rfl (by decide) 0 rfl rfl) rfl rfl hl.1 rfl (lv_room (Nat.le_of_ble_eq_true rfl)) d_M_state_10 ⟨by decide, by decide⟩) (fun r10 u10 hw10 => ?_)
  subst hw10
  refine j_ws (ws' := [(m0, .inr (6, [.int (nI 1), .int now, .int (nI n), .int rf, .ref m1, .ref m2, .ref m3, .ref m4, .ref m5, .ref m6, .ref m7, .ref m8, .ref m9, .ref m10])), (m1, .inl (cA, 80, .inl (X 0))), (m2, .inl (cA, 80, .inl (X 1))), (m3, .inl (cA, 80, .inl (X 2))), (m4, .inl (cA, 80, .inl (X 3))), (m5, .inl (cA, 80, .inl (X 4))), (m6, .inl (cA, 20, .inl sl)), (m7, .inl (cA, 10, .inl tt)), (m8, .inl (cA, 10, .inl sm)), (m9, .inl (cA, 10, .inl hs)), (m10, .inl (cA, 64, .inl lt))]) [0, 1, 2, 3, 4, 5, 6, 7, 8, 9, 10] (by decide) rfl ?_
  refine j_if_ne (tgt := 18) F d_M_state_13 (by decide) (fun c_13 => ?_) (fun c_13 => ?_)
  · exact absurd rfl c_13
  · refine j_iconst (v := nI 0) F d_M_state_16 (by decide) ?_
    exact ret _ _ _ _ _ _ () d_M_state_17 rfl (by decide) (by decide) rfl rfl

def rm_M_sum : Room := { frames := 4, cells := 0, slots := 0, locals := 96 }
set_option maxHeartbeats 4000000 in
set_option maxRecDepth 100000 in
theorem ct_M_sum_ok (l : Launch) (D : va_G) (cA : ClassId) (m0 m1 m2 m3 m4 m5 m6 m7 m8 m9 m10 : Nat) (th now : Int32) (n : Nat) (rf : Int32) (X : AF) (sl tt sm hs lt : Nat → Int32) (hA0 : aok X n) (b : Nat) (hb : b < 10) (t k : Int32) (ht : win t (nI 0) (nI 10000) = true) (hk : win k (nI 0) (nI 10000) = true) : Ci (S := Unit) l y_M_sum (Cond.code y_M_sum c_M_sum 4 (some .int) :: WD) rm_M_sum D vwCl [(cA, .int)] nws [.ref m0, .int (nI b), .int t, .int k] [(m0, .inr (6, [.int th, .int now, .int (nI n), .int rf, .ref m1, .ref m2, .ref m3, .ref m4, .ref m5, .ref m6, .ref m7, .ref m8, .ref m9, .ref m10])), (m1, .inl (cA, 80, .inl (X 0))), (m2, .inl (cA, 80, .inl (X 1))), (m3, .inl (cA, 80, .inl (X 2))), (m4, .inl (cA, 80, .inl (X 3))), (m5, .inl (cA, 80, .inl (X 4))), (m6, .inl (cA, 20, .inl sl)), (m7, .inl (cA, 10, .inl tt)), (m8, .inl (cA, 10, .inl sm)), (m9, .inl (cA, 10, .inl hs)), (m10, .inl (cA, 64, .inl lt))] 0 0 (fun r _ => r = smP X n t k b) (fun _ => [(m0, .inr (6, [.int (nI 0), .int now, .int (nI n), .int rf, .ref m1, .ref m2, .ref m3, .ref m4, .ref m5, .ref m6, .ref m7, .ref m8, .ref m9, .ref m10])), (m1, .inl (cA, 80, .inl (X 0))), (m2, .inl (cA, 80, .inl (X 1))), (m3, .inl (cA, 80, .inl (X 2))), (m4, .inl (cA, 80, .inl (X 3))), (m5, .inl (cA, 80, .inl (X 4))), (m6, .inl (cA, 20, .inl (slP X n t k))), (m7, .inl (cA, 10, .inl (ttP X n t k))), (m8, .inl (cA, 10, .inl (smP X n t k))), (m9, .inl (cA, 10, .inl hs)), (m10, .inl (cA, 64, .inl lt))]) := by
  refine Ci.of (cc := c_M_sum) (nL := 4) (lv := [(0, .ref m0), (1, .int (nI b)), (2, .int t), (3, .int k)]) (by decide) rfl (Nat.le_of_ble_eq_true rfl) rfl ?_
  intro p e s m args below meth cd A Q F hK hN hA ret
  have h80 := hA0.1
  refine j_aloadn F d_M_sum_0 0 rfl rfl ?_
  refine j_iloadn F d_M_sum_1 1 rfl rfl ?_
  refine j_iconst (v := nI 0) F d_M_sum_2 (by decide) ?_
  refine j_bipush (v := nI 9) F d_M_sum_3 (by decide) ?_
  refine j_goi (wc := []) (wr := [(m0, .inr (6, [.int th, .int now, .int (nI n), .int rf, .ref m1, .ref m2, .ref m3, .ref m4, .ref m5, .ref m6, .ref m7, .ref m8, .ref m9, .ref m10])), (m1, .inl (cA, 80, .inl (X 0))), (m2, .inl (cA, 80, .inl (X 1))), (m3, .inl (cA, 80, .inl (X 2))), (m4, .inl (cA, 80, .inl (X 3))), (m5, .inl (cA, 80, .inl (X 4))), (m6, .inl (cA, 20, .inl sl)), (m7, .inl (cA, 10, .inl tt)), (m8, .inl (cA, 10, .inl sm)), (m9, .inl (cA, 10, .inl hs)), (m10, .inl (cA, 64, .inl lt))]) hA [] [0, 1, 2, 3, 4, 5, 6, 7, 8, 9, 10] rfl rfl (by decide) (by decide) (fun H locs ls hP hD hl => va_runS (As := [.int (nI b), .int (nI 0), .int (nI 9)]) (rest := [.ref m0]) F (ct_M_in l D cA (nI b) (nI 0) (nI 9) H.size) ⟨callB_of 3 F.2.2.2.2 (gd k_523) rfl rfl rfl (F.2.2.2.2 _ (wm k_7)) (F.2.2.2.2 _ (wm k_521)) (by decide +kernel) ⟨by decide, by decide⟩, F.2.2.2.2 _ (wm k_522)⟩ (pre_S hK hN hP hD [] rfl (by decide)) rfl rfl hl.1 rfl (lv_room (Nat.le_of_ble_eq_true rfl)) d_M_sum_5 ⟨by decide, by decide⟩) (fun r5 u5 hw5 => ?_)
  subst hw5
  refine j_ws (ws' := [(m0, .inr (6, [.int th, .int now, .int (nI n), .int rf, .ref m1, .ref m2, .ref m3, .ref m4, .ref m5, .ref m6, .ref m7, .ref m8, .ref m9, .ref m10])), (m1, .inl (cA, 80, .inl (X 0))), (m2, .inl (cA, 80, .inl (X 1))), (m3, .inl (cA, 80, .inl (X 2))), (m4, .inl (cA, 80, .inl (X 3))), (m5, .inl (cA, 80, .inl (X 4))), (m6, .inl (cA, 20, .inl sl)), (m7, .inl (cA, 10, .inl tt)), (m8, .inl (cA, 10, .inl sm)), (m9, .inl (cA, 10, .inl hs)), (m10, .inl (cA, 64, .inl lt))]) [0, 1, 2, 3, 4, 5, 6, 7, 8, 9, 10] (by decide) rfl ?_
  refine j_iloadn F d_M_sum_8 2 rfl rfl ?_
  refine j_iloadn F d_M_sum_9 3 rfl rfl ?_
  refine j_goi (wc := [(m0, .inr (6, [.int th, .int now, .int (nI n), .int rf, .ref m1, .ref m2, .ref m3, .ref m4, .ref m5, .ref m6, .ref m7, .ref m8, .ref m9, .ref m10])), (m1, .inl (cA, 80, .inl (X 0))), (m2, .inl (cA, 80, .inl (X 1))), (m3, .inl (cA, 80, .inl (X 2))), (m4, .inl (cA, 80, .inl (X 3))), (m5, .inl (cA, 80, .inl (X 4))), (m6, .inl (cA, 20, .inl sl)), (m7, .inl (cA, 10, .inl tt)), (m8, .inl (cA, 10, .inl sm)), (m9, .inl (cA, 10, .inl hs)), (m10, .inl (cA, 64, .inl lt))]) (wr := []) hA [0, 1, 2, 3, 4, 5, 6, 7, 8, 9, 10] [] rfl rfl (by decide) (by decide) (fun H locs ls hP hD hl => va_runV (As := [.int (bI (win (nI b) (nI 0) (nI 9))), .int t, .int k]) (rest := []) F (ct_M_isAsked_ok l D cA m0 m1 m2 m3 m4 m5 m6 m7 m8 m9 m10 th now n rf X sl tt sm hs lt hA0 (win (nI b) (nI 0) (nI 9)) t k (by rw [win_of rfl (by omega) (by decide), ht, hk]; rfl) H.size) ⟨callB_of 3 F.2.2.2.2 (gd k_540) rfl rfl rfl (F.2.2.2.2 _ (wm k_7)) (F.2.2.2.2 _ (wm k_537)) (by decide +kernel) ⟨by decide, by decide⟩, F.2.2.2.2 _ (wm k_539), F.2.2.2.2 _ (wm ks_26)⟩ (pre_V rfl hK hN hP hD [0, 1, 2, 3, 4, 5, 6, 7, 8, 9, 10] rfl (by decide) 0 rfl rfl) rfl rfl hl.1 rfl (lv_room (Nat.le_of_ble_eq_true rfl)) d_M_sum_10 ⟨by decide, by decide⟩) (fun r10 u10 hw10 => ?_)
  subst hw10
  refine j_ws (ws' := [(m0, .inr (6, [.int (nI 0), .int now, .int (nI n), .int rf, .ref m1, .ref m2, .ref m3, .ref m4, .ref m5, .ref m6, .ref m7, .ref m8, .ref m9, .ref m10])), (m1, .inl (cA, 80, .inl (X 0))), (m2, .inl (cA, 80, .inl (X 1))), (m3, .inl (cA, 80, .inl (X 2))), (m4, .inl (cA, 80, .inl (X 3))), (m5, .inl (cA, 80, .inl (X 4))), (m6, .inl (cA, 20, .inl sl)), (m7, .inl (cA, 10, .inl tt)), (m8, .inl (cA, 10, .inl sm)), (m9, .inl (cA, 10, .inl hs)), (m10, .inl (cA, 64, .inl lt))]) [0, 1, 2, 3, 4, 5, 6, 7, 8, 9, 10] (by decide) rfl ?_
  refine j_if_ne (tgt := 18) F d_M_sum_13 (by decide) (fun c_13 => ?_) (fun c_13 => ?_)
  · refine j_aloadn F d_M_sum_18 0 rfl rfl ?_
    refine j_iloadn F d_M_sum_19 2 rfl rfl ?_
    refine j_iloadn F d_M_sum_20 3 rfl rfl ?_
    refine j_gov (wc := [(m0, .inr (6, [.int (nI 0), .int now, .int (nI n), .int rf, .ref m1, .ref m2, .ref m3, .ref m4, .ref m5, .ref m6, .ref m7, .ref m8, .ref m9, .ref m10])), (m1, .inl (cA, 80, .inl (X 0))), (m2, .inl (cA, 80, .inl (X 1))), (m3, .inl (cA, 80, .inl (X 2))), (m4, .inl (cA, 80, .inl (X 3))), (m5, .inl (cA, 80, .inl (X 4))), (m6, .inl (cA, 20, .inl sl)), (m7, .inl (cA, 10, .inl tt)), (m8, .inl (cA, 10, .inl sm)), (m9, .inl (cA, 10, .inl hs)), (m10, .inl (cA, 64, .inl lt))]) (wr := []) hA [0, 1, 2, 3, 4, 5, 6, 7, 8, 9, 10] [] rfl rfl (by decide) (by decide) (fun H locs ls hP hD hl => va_runV (As := [.int t, .int k]) (rest := []) F (ct_M_finds l D cA m0 m1 m2 m3 m4 m5 m6 m7 m8 m9 m10 (nI 0) now n rf X sl tt sm hs lt hA0 t k  H.size) ⟨callB_of 2 F.2.2.2.2 (gd k_544) rfl rfl rfl (F.2.2.2.2 _ (wm k_7)) (F.2.2.2.2 _ (wm k_541)) (by decide +kernel) ⟨by decide, by decide⟩, F.2.2.2.2 _ (wm k_543), F.2.2.2.2 _ (wm ks_27)⟩ (pre_V rfl hK hN hP hD [0, 1, 2, 3, 4, 5, 6, 7, 8, 9, 10] rfl (by decide) 0 rfl rfl) rfl rfl hl.1 rfl (lv_room (Nat.le_of_ble_eq_true rfl)) d_M_sum_21 ⟨by decide, by decide⟩) (fun u21 hw21 => ?_)
    refine j_ws (ws' := [(m0, .inr (6, [.int (nI 0), .int now, .int (nI n), .int rf, .ref m1, .ref m2, .ref m3, .ref m4, .ref m5, .ref m6, .ref m7, .ref m8, .ref m9, .ref m10])), (m1, .inl (cA, 80, .inl (X 0))), (m2, .inl (cA, 80, .inl (X 1))), (m3, .inl (cA, 80, .inl (X 2))), (m4, .inl (cA, 80, .inl (X 3))), (m5, .inl (cA, 80, .inl (X 4))), (m6, .inl (cA, 20, .inl (slP X n t k))), (m7, .inl (cA, 10, .inl (ttP X n t k))), (m8, .inl (cA, 10, .inl (smP X n t k))), (m9, .inl (cA, 10, .inl hs)), (m10, .inl (cA, 64, .inl lt))]) [0, 1, 2, 3, 4, 5, 6, 7, 8, 9, 10] (by decide) rfl ?_
    refine j_aloadn F d_M_sum_24 0 rfl rfl ?_
    refine j_get (ci := 6) (v := .ref m8) F in_M hK 0 rfl rfl 11 (by decide) (wm k_477) rfl d_M_sum_25 ?_
    refine j_iloadn F d_M_sum_28 1 rfl rfl ?_
    refine j_iald (v := (smP X n t k) b) F hK 8 0 rfl rfl (by omega) (by decide) d_M_sum_29 rfl ?_
    exact ret _ _ _ _ _ _ () d_M_sum_30 rfl (by decide) (by decide) rfl rfl
  · exact absurd c_13 (by decide)

set_option maxHeartbeats 4000000 in
set_option maxRecDepth 100000 in
theorem ct_M_sum_no (l : Launch) (D : va_G) (cA : ClassId) (m0 m1 m2 m3 m4 m5 m6 m7 m8 m9 m10 : Nat) (th now : Int32) (n : Nat) (rf : Int32) (X : AF) (sl tt sm hs lt : Nat → Int32) (hA0 : aok X n) (b t k : Int32) (hbad : (win b (nI 0) (nI 9) && (win t (nI 0) (nI 10000) && win k (nI 0) (nI 10000))) = false) : Ci (S := Unit) l y_M_sum (Cond.code y_M_sum c_M_sum 4 (some .int) :: WD) rm_M_sum D vwCl [(cA, .int)] nws [.ref m0, .int b, .int t, .int k] [(m0, .inr (6, [.int th, .int now, .int (nI n), .int rf, .ref m1, .ref m2, .ref m3, .ref m4, .ref m5, .ref m6, .ref m7, .ref m8, .ref m9, .ref m10])), (m1, .inl (cA, 80, .inl (X 0))), (m2, .inl (cA, 80, .inl (X 1))), (m3, .inl (cA, 80, .inl (X 2))), (m4, .inl (cA, 80, .inl (X 3))), (m5, .inl (cA, 80, .inl (X 4))), (m6, .inl (cA, 20, .inl sl)), (m7, .inl (cA, 10, .inl tt)), (m8, .inl (cA, 10, .inl sm)), (m9, .inl (cA, 10, .inl hs)), (m10, .inl (cA, 64, .inl lt))] 0 0 (fun r _ => r = nI 0) (fun _ => [(m0, .inr (6, [.int (nI 1), .int now, .int (nI n), .int rf, .ref m1, .ref m2, .ref m3, .ref m4, .ref m5, .ref m6, .ref m7, .ref m8, .ref m9, .ref m10])), (m1, .inl (cA, 80, .inl (X 0))), (m2, .inl (cA, 80, .inl (X 1))), (m3, .inl (cA, 80, .inl (X 2))), (m4, .inl (cA, 80, .inl (X 3))), (m5, .inl (cA, 80, .inl (X 4))), (m6, .inl (cA, 20, .inl sl)), (m7, .inl (cA, 10, .inl tt)), (m8, .inl (cA, 10, .inl sm)), (m9, .inl (cA, 10, .inl hs)), (m10, .inl (cA, 64, .inl lt))]) := by
  refine Ci.of (cc := c_M_sum) (nL := 4) (lv := [(0, .ref m0), (1, .int b), (2, .int t), (3, .int k)]) (by decide) rfl (Nat.le_of_ble_eq_true rfl) rfl ?_
  intro p e s m args below meth cd A Q F hK hN hA ret
  refine j_aloadn F d_M_sum_0 0 rfl rfl ?_
  refine j_iloadn F d_M_sum_1 1 rfl rfl ?_
  refine j_iconst (v := nI 0) F d_M_sum_2 (by decide) ?_
  refine j_bipush (v := nI 9) F d_M_sum_3 (by decide) ?_
  refine j_goi (wc := []) (wr := [(m0, .inr (6, [.int th, .int now, .int (nI n), .int rf, .ref m1, .ref m2, .ref m3, .ref m4, .ref m5, .ref m6, .ref m7, .ref m8, .ref m9, .ref m10])), (m1, .inl (cA, 80, .inl (X 0))), (m2, .inl (cA, 80, .inl (X 1))), (m3, .inl (cA, 80, .inl (X 2))), (m4, .inl (cA, 80, .inl (X 3))), (m5, .inl (cA, 80, .inl (X 4))), (m6, .inl (cA, 20, .inl sl)), (m7, .inl (cA, 10, .inl tt)), (m8, .inl (cA, 10, .inl sm)), (m9, .inl (cA, 10, .inl hs)), (m10, .inl (cA, 64, .inl lt))]) hA [] [0, 1, 2, 3, 4, 5, 6, 7, 8, 9, 10] rfl rfl (by decide) (by decide) (fun H locs ls hP hD hl => va_runS (As := [.int b, .int (nI 0), .int (nI 9)]) (rest := [.ref m0]) F (ct_M_in l D cA b (nI 0) (nI 9) H.size) ⟨callB_of 3 F.2.2.2.2 (gd k_523) rfl rfl rfl (F.2.2.2.2 _ (wm k_7)) (F.2.2.2.2 _ (wm k_521)) (by decide +kernel) ⟨by decide, by decide⟩, F.2.2.2.2 _ (wm k_522)⟩ (pre_S hK hN hP hD [] rfl (by decide)) rfl rfl hl.1 rfl (lv_room (Nat.le_of_ble_eq_true rfl)) d_M_sum_5 ⟨by decide, by decide⟩) (fun r5 u5 hw5 => ?_)
  subst hw5
  refine j_ws (ws' := [(m0, .inr (6, [.int th, .int now, .int (nI n), .int rf, .ref m1, .ref m2, .ref m3, .ref m4, .ref m5, .ref m6, .ref m7, .ref m8, .ref m9, .ref m10])), (m1, .inl (cA, 80, .inl (X 0))), (m2, .inl (cA, 80, .inl (X 1))), (m3, .inl (cA, 80, .inl (X 2))), (m4, .inl (cA, 80, .inl (X 3))), (m5, .inl (cA, 80, .inl (X 4))), (m6, .inl (cA, 20, .inl sl)), (m7, .inl (cA, 10, .inl tt)), (m8, .inl (cA, 10, .inl sm)), (m9, .inl (cA, 10, .inl hs)), (m10, .inl (cA, 64, .inl lt))]) [0, 1, 2, 3, 4, 5, 6, 7, 8, 9, 10] (by decide) rfl ?_
  refine j_iloadn F d_M_sum_8 2 rfl rfl ?_
  refine j_iloadn F d_M_sum_9 3 rfl rfl ?_
  refine j_goi (wc := [(m0, .inr (6, [.int th, .int now, .int (nI n), .int rf, .ref m1, .ref m2, .ref m3, .ref m4, .ref m5, .ref m6, .ref m7, .ref m8, .ref m9, .ref m10])), (m1, .inl (cA, 80, .inl (X 0))), (m2, .inl (cA, 80, .inl (X 1))), (m3, .inl (cA, 80, .inl (X 2))), (m4, .inl (cA, 80, .inl (X 3))), (m5, .inl (cA, 80, .inl (X 4))), (m6, .inl (cA, 20, .inl sl)), (m7, .inl (cA, 10, .inl tt)), (m8, .inl (cA, 10, .inl sm)), (m9, .inl (cA, 10, .inl hs)), (m10, .inl (cA, 64, .inl lt))]) (wr := []) hA [0, 1, 2, 3, 4, 5, 6, 7, 8, 9, 10] [] rfl rfl (by decide) (by decide) (fun H locs ls hP hD hl => va_runV (As := [.int (bI (win b (nI 0) (nI 9))), .int t, .int k]) (rest := []) F (ct_M_isAsked_no l D cA m0 m1 m2 m3 m4 m5 m6 m7 m8 m9 m10 th now n rf X sl tt sm hs lt hA0 (win b (nI 0) (nI 9)) t k hbad H.size) ⟨callB_of 3 F.2.2.2.2 (gd k_540) rfl rfl rfl (F.2.2.2.2 _ (wm k_7)) (F.2.2.2.2 _ (wm k_537)) (by decide +kernel) ⟨by decide, by decide⟩, F.2.2.2.2 _ (wm k_539), F.2.2.2.2 _ (wm ks_26)⟩ (pre_V rfl hK hN hP hD [0, 1, 2, 3, 4, 5, 6, 7, 8, 9, 10] rfl (by decide) 0 rfl rfl) rfl rfl hl.1 rfl (lv_room (Nat.le_of_ble_eq_true rfl)) d_M_sum_10 ⟨by decide, by decide⟩) (fun r10 u10 hw10 => ?_)
  subst hw10
  refine j_ws (ws' := [(m0, .inr (6, [.int (nI 1), .int now, .int (nI n), .int rf, .ref m1, .ref m2, .ref m3, .ref m4, .ref m5, .ref m6, .ref m7, .ref m8, .ref m9, .ref m10])), (m1, .inl (cA, 80, .inl (X 0))), (m2, .inl (cA, 80, .inl (X 1))), (m3, .inl (cA, 80, .inl (X 2))), (m4, .inl (cA, 80, .inl (X 3))), (m5, .inl (cA, 80, .inl (X 4))), (m6, .inl (cA, 20, .inl sl)), (m7, .inl (cA, 10, .inl tt)), (m8, .inl (cA, 10, .inl sm)), (m9, .inl (cA, 10, .inl hs)), (m10, .inl (cA, 64, .inl lt))]) [0, 1, 2, 3, 4, 5, 6, 7, 8, 9, 10] (by decide) rfl ?_
  refine j_if_ne (tgt := 18) F d_M_sum_13 (by decide) (fun c_13 => ?_) (fun c_13 => ?_)
  · exact absurd rfl c_13
  · refine j_iconst (v := nI 0) F d_M_sum_16 (by decide) ?_
    exact ret _ _ _ _ _ _ () d_M_sum_17 rfl (by decide) (by decide) rfl rfl

def rm_M_apart : Room := { frames := 4, cells := 0, slots := 0, locals := 96 }
set_option maxHeartbeats 4000000 in
set_option maxRecDepth 100000 in
theorem ct_M_apart_ok (l : Launch) (D : va_G) (cA : ClassId) (m0 m1 m2 m3 m4 m5 m6 m7 m8 m9 m10 : Nat) (th now : Int32) (n : Nat) (rf : Int32) (X : AF) (sl tt sm hs lt : Nat → Int32) (hA0 : aok X n) (b c : Nat) (hb : b < 20) (hc : c < 20) (t k : Int32) (ht : win t (nI 0) (nI 10000) = true) (hk : win k (nI 0) (nI 10000) = true) : Ci (S := Unit) l y_M_apart (Cond.code y_M_apart c_M_apart 5 (some .int) :: WD) rm_M_apart D vwCl [(cA, .int)] nws [.ref m0, .int (nI b), .int (nI c), .int t, .int k] [(m0, .inr (6, [.int th, .int now, .int (nI n), .int rf, .ref m1, .ref m2, .ref m3, .ref m4, .ref m5, .ref m6, .ref m7, .ref m8, .ref m9, .ref m10])), (m1, .inl (cA, 80, .inl (X 0))), (m2, .inl (cA, 80, .inl (X 1))), (m3, .inl (cA, 80, .inl (X 2))), (m4, .inl (cA, 80, .inl (X 3))), (m5, .inl (cA, 80, .inl (X 4))), (m6, .inl (cA, 20, .inl sl)), (m7, .inl (cA, 10, .inl tt)), (m8, .inl (cA, 10, .inl sm)), (m9, .inl (cA, 10, .inl hs)), (m10, .inl (cA, 64, .inl lt))] 0 0 (fun r _ => r = aptP (slP X n t k) b c) (fun _ => [(m0, .inr (6, [.int (nI 0), .int now, .int (nI n), .int rf, .ref m1, .ref m2, .ref m3, .ref m4, .ref m5, .ref m6, .ref m7, .ref m8, .ref m9, .ref m10])), (m1, .inl (cA, 80, .inl (X 0))), (m2, .inl (cA, 80, .inl (X 1))), (m3, .inl (cA, 80, .inl (X 2))), (m4, .inl (cA, 80, .inl (X 3))), (m5, .inl (cA, 80, .inl (X 4))), (m6, .inl (cA, 20, .inl (slP X n t k))), (m7, .inl (cA, 10, .inl (ttP X n t k))), (m8, .inl (cA, 10, .inl (smP X n t k))), (m9, .inl (cA, 10, .inl hs)), (m10, .inl (cA, 64, .inl lt))]) := by
  refine Ci.of (cc := c_M_apart) (nL := 5) (lv := [(0, .ref m0), (1, .int (nI b)), (2, .int (nI c)), (3, .int t), (4, .int k)]) (by decide) rfl (Nat.le_of_ble_eq_true rfl) rfl ?_
  intro p e s m args below meth cd A Q F hK hN hA ret
  have h80 := hA0.1
  refine j_aloadn F d_M_apart_0 0 rfl rfl ?_
  refine j_iloadn F d_M_apart_1 1 rfl rfl ?_
  refine j_iconst (v := nI 0) F d_M_apart_2 (by decide) ?_
  refine j_bipush (v := nI 19) F d_M_apart_3 (by decide) ?_
  refine j_goi (wc := []) (wr := [(m0, .inr (6, [.int th, .int now, .int (nI n), .int rf, .ref m1, .ref m2, .ref m3, .ref m4, .ref m5, .ref m6, .ref m7, .ref m8, .ref m9, .ref m10])), (m1, .inl (cA, 80, .inl (X 0))), (m2, .inl (cA, 80, .inl (X 1))), (m3, .inl (cA, 80, .inl (X 2))), (m4, .inl (cA, 80, .inl (X 3))), (m5, .inl (cA, 80, .inl (X 4))), (m6, .inl (cA, 20, .inl sl)), (m7, .inl (cA, 10, .inl tt)), (m8, .inl (cA, 10, .inl sm)), (m9, .inl (cA, 10, .inl hs)), (m10, .inl (cA, 64, .inl lt))]) hA [] [0, 1, 2, 3, 4, 5, 6, 7, 8, 9, 10] rfl rfl (by decide) (by decide) (fun H locs ls hP hD hl => va_runS (As := [.int (nI b), .int (nI 0), .int (nI 19)]) (rest := [.ref m0]) F (ct_M_in l D cA (nI b) (nI 0) (nI 19) H.size) ⟨callB_of 3 F.2.2.2.2 (gd k_523) rfl rfl rfl (F.2.2.2.2 _ (wm k_7)) (F.2.2.2.2 _ (wm k_521)) (by decide +kernel) ⟨by decide, by decide⟩, F.2.2.2.2 _ (wm k_522)⟩ (pre_S hK hN hP hD [] rfl (by decide)) rfl rfl hl.1 rfl (lv_room (Nat.le_of_ble_eq_true rfl)) d_M_apart_5 ⟨by decide, by decide⟩) (fun r5 u5 hw5 => ?_)
  subst hw5
  refine j_ws (ws' := [(m0, .inr (6, [.int th, .int now, .int (nI n), .int rf, .ref m1, .ref m2, .ref m3, .ref m4, .ref m5, .ref m6, .ref m7, .ref m8, .ref m9, .ref m10])), (m1, .inl (cA, 80, .inl (X 0))), (m2, .inl (cA, 80, .inl (X 1))), (m3, .inl (cA, 80, .inl (X 2))), (m4, .inl (cA, 80, .inl (X 3))), (m5, .inl (cA, 80, .inl (X 4))), (m6, .inl (cA, 20, .inl sl)), (m7, .inl (cA, 10, .inl tt)), (m8, .inl (cA, 10, .inl sm)), (m9, .inl (cA, 10, .inl hs)), (m10, .inl (cA, 64, .inl lt))]) [0, 1, 2, 3, 4, 5, 6, 7, 8, 9, 10] (by decide) rfl ?_
  refine j_if_eq (tgt := 25) F d_M_apart_8 (by decide) (fun c_8 => ?_) (fun c_8 => ?_)
  · exact absurd (bI_0 c_8) (by rw [win_of rfl (by omega) (by decide)]; decide)
  · refine j_iloadn F d_M_apart_11 2 rfl rfl ?_
    refine j_iconst (v := nI 0) F d_M_apart_12 (by decide) ?_
    refine j_bipush (v := nI 19) F d_M_apart_13 (by decide) ?_
    refine j_goi (wc := []) (wr := [(m0, .inr (6, [.int th, .int now, .int (nI n), .int rf, .ref m1, .ref m2, .ref m3, .ref m4, .ref m5, .ref m6, .ref m7, .ref m8, .ref m9, .ref m10])), (m1, .inl (cA, 80, .inl (X 0))), (m2, .inl (cA, 80, .inl (X 1))), (m3, .inl (cA, 80, .inl (X 2))), (m4, .inl (cA, 80, .inl (X 3))), (m5, .inl (cA, 80, .inl (X 4))), (m6, .inl (cA, 20, .inl sl)), (m7, .inl (cA, 10, .inl tt)), (m8, .inl (cA, 10, .inl sm)), (m9, .inl (cA, 10, .inl hs)), (m10, .inl (cA, 64, .inl lt))]) hA [] [0, 1, 2, 3, 4, 5, 6, 7, 8, 9, 10] rfl rfl (by decide) (by decide) (fun H locs ls hP hD hl => va_runS (As := [.int (nI c), .int (nI 0), .int (nI 19)]) (rest := [.ref m0]) F (ct_M_in l D cA (nI c) (nI 0) (nI 19) H.size) ⟨callB_of 3 F.2.2.2.2 (gd k_523) rfl rfl rfl (F.2.2.2.2 _ (wm k_7)) (F.2.2.2.2 _ (wm k_521)) (by decide +kernel) ⟨by decide, by decide⟩, F.2.2.2.2 _ (wm k_522)⟩ (pre_S hK hN hP hD [] rfl (by decide)) rfl rfl hl.1 rfl (lv_room (Nat.le_of_ble_eq_true rfl)) d_M_apart_15 ⟨by decide, by decide⟩) (fun r15 u15 hw15 => ?_)
    subst hw15
    refine j_ws (ws' := [(m0, .inr (6, [.int th, .int now, .int (nI n), .int rf, .ref m1, .ref m2, .ref m3, .ref m4, .ref m5, .ref m6, .ref m7, .ref m8, .ref m9, .ref m10])), (m1, .inl (cA, 80, .inl (X 0))), (m2, .inl (cA, 80, .inl (X 1))), (m3, .inl (cA, 80, .inl (X 2))), (m4, .inl (cA, 80, .inl (X 3))), (m5, .inl (cA, 80, .inl (X 4))), (m6, .inl (cA, 20, .inl sl)), (m7, .inl (cA, 10, .inl tt)), (m8, .inl (cA, 10, .inl sm)), (m9, .inl (cA, 10, .inl hs)), (m10, .inl (cA, 64, .inl lt))]) [0, 1, 2, 3, 4, 5, 6, 7, 8, 9, 10] (by decide) rfl ?_
    refine j_if_eq (tgt := 25) F d_M_apart_18 (by decide) (fun c_18 => ?_) (fun c_18 => ?_)
    · exact absurd (bI_0 c_18) (by rw [win_of rfl (by omega) (by decide)]; decide)
    · refine j_iconst (v := nI 1) F d_M_apart_21 (by decide) ?_
      refine j_goto (tgt := 26) F d_M_apart_22 (by decide) ?_
      refine j_iloadn F d_M_apart_26 3 rfl rfl ?_
      refine j_iload F d_M_apart_27 4 rfl ?_
      refine j_goi (wc := [(m0, .inr (6, [.int th, .int now, .int (nI n), .int rf, .ref m1, .ref m2, .ref m3, .ref m4, .ref m5, .ref m6, .ref m7, .ref m8, .ref m9, .ref m10])), (m1, .inl (cA, 80, .inl (X 0))), (m2, .inl (cA, 80, .inl (X 1))), (m3, .inl (cA, 80, .inl (X 2))), (m4, .inl (cA, 80, .inl (X 3))), (m5, .inl (cA, 80, .inl (X 4))), (m6, .inl (cA, 20, .inl sl)), (m7, .inl (cA, 10, .inl tt)), (m8, .inl (cA, 10, .inl sm)), (m9, .inl (cA, 10, .inl hs)), (m10, .inl (cA, 64, .inl lt))]) (wr := []) hA [0, 1, 2, 3, 4, 5, 6, 7, 8, 9, 10] [] rfl rfl (by decide) (by decide) (fun H locs ls hP hD hl => va_runV (As := [.int (nI 1), .int t, .int k]) (rest := []) F (ct_M_isAsked_ok l D cA m0 m1 m2 m3 m4 m5 m6 m7 m8 m9 m10 th now n rf X sl tt sm hs lt hA0 true t k (by rw [ht, hk]; rfl) H.size) ⟨callB_of 3 F.2.2.2.2 (gd k_540) rfl rfl rfl (F.2.2.2.2 _ (wm k_7)) (F.2.2.2.2 _ (wm k_537)) (by decide +kernel) ⟨by decide, by decide⟩, F.2.2.2.2 _ (wm k_539), F.2.2.2.2 _ (wm ks_26)⟩ (pre_V rfl hK hN hP hD [0, 1, 2, 3, 4, 5, 6, 7, 8, 9, 10] rfl (by decide) 0 rfl rfl) rfl rfl hl.1 rfl (lv_room (Nat.le_of_ble_eq_true rfl)) d_M_apart_29 ⟨by decide, by decide⟩) (fun r29 u29 hw29 => ?_)
      subst hw29
      refine j_ws (ws' := [(m0, .inr (6, [.int (nI 0), .int now, .int (nI n), .int rf, .ref m1, .ref m2, .ref m3, .ref m4, .ref m5, .ref m6, .ref m7, .ref m8, .ref m9, .ref m10])), (m1, .inl (cA, 80, .inl (X 0))), (m2, .inl (cA, 80, .inl (X 1))), (m3, .inl (cA, 80, .inl (X 2))), (m4, .inl (cA, 80, .inl (X 3))), (m5, .inl (cA, 80, .inl (X 4))), (m6, .inl (cA, 20, .inl sl)), (m7, .inl (cA, 10, .inl tt)), (m8, .inl (cA, 10, .inl sm)), (m9, .inl (cA, 10, .inl hs)), (m10, .inl (cA, 64, .inl lt))]) [0, 1, 2, 3, 4, 5, 6, 7, 8, 9, 10] (by decide) rfl ?_
      refine j_if_ne (tgt := 37) F d_M_apart_32 (by decide) (fun c_32 => ?_) (fun c_32 => ?_)
      · refine j_aloadn F d_M_apart_37 0 rfl rfl ?_
        refine j_iloadn F d_M_apart_38 3 rfl rfl ?_
        refine j_iload F d_M_apart_39 4 rfl ?_
        refine j_gov (wc := [(m0, .inr (6, [.int (nI 0), .int now, .int (nI n), .int rf, .ref m1, .ref m2, .ref m3, .ref m4, .ref m5, .ref m6, .ref m7, .ref m8, .ref m9, .ref m10])), (m1, .inl (cA, 80, .inl (X 0))), (m2, .inl (cA, 80, .inl (X 1))), (m3, .inl (cA, 80, .inl (X 2))), (m4, .inl (cA, 80, .inl (X 3))), (m5, .inl (cA, 80, .inl (X 4))), (m6, .inl (cA, 20, .inl sl)), (m7, .inl (cA, 10, .inl tt)), (m8, .inl (cA, 10, .inl sm)), (m9, .inl (cA, 10, .inl hs)), (m10, .inl (cA, 64, .inl lt))]) (wr := []) hA [0, 1, 2, 3, 4, 5, 6, 7, 8, 9, 10] [] rfl rfl (by decide) (by decide) (fun H locs ls hP hD hl => va_runV (As := [.int t, .int k]) (rest := []) F (ct_M_finds l D cA m0 m1 m2 m3 m4 m5 m6 m7 m8 m9 m10 (nI 0) now n rf X sl tt sm hs lt hA0 t k  H.size) ⟨callB_of 2 F.2.2.2.2 (gd k_544) rfl rfl rfl (F.2.2.2.2 _ (wm k_7)) (F.2.2.2.2 _ (wm k_541)) (by decide +kernel) ⟨by decide, by decide⟩, F.2.2.2.2 _ (wm k_543), F.2.2.2.2 _ (wm ks_27)⟩ (pre_V rfl hK hN hP hD [0, 1, 2, 3, 4, 5, 6, 7, 8, 9, 10] rfl (by decide) 0 rfl rfl) rfl rfl hl.1 rfl (lv_room (Nat.le_of_ble_eq_true rfl)) d_M_apart_41 ⟨by decide, by decide⟩) (fun u41 hw41 => ?_)
        refine j_ws (ws' := [(m0, .inr (6, [.int (nI 0), .int now, .int (nI n), .int rf, .ref m1, .ref m2, .ref m3, .ref m4, .ref m5, .ref m6, .ref m7, .ref m8, .ref m9, .ref m10])), (m1, .inl (cA, 80, .inl (X 0))), (m2, .inl (cA, 80, .inl (X 1))), (m3, .inl (cA, 80, .inl (X 2))), (m4, .inl (cA, 80, .inl (X 3))), (m5, .inl (cA, 80, .inl (X 4))), (m6, .inl (cA, 20, .inl (slP X n t k))), (m7, .inl (cA, 10, .inl (ttP X n t k))), (m8, .inl (cA, 10, .inl (smP X n t k))), (m9, .inl (cA, 10, .inl hs)), (m10, .inl (cA, 64, .inl lt))]) [0, 1, 2, 3, 4, 5, 6, 7, 8, 9, 10] (by decide) rfl ?_
        refine j_aloadn F d_M_apart_44 0 rfl rfl ?_
        refine j_get (ci := 6) (v := .ref m6) F in_M hK 0 rfl rfl 9 (by decide) (wm k_475) rfl d_M_apart_45 ?_
        refine j_iloadn F d_M_apart_48 1 rfl rfl ?_
        refine j_iald (v := (slP X n t k) b) F hK 6 0 rfl rfl (by omega) (by decide) d_M_apart_49 rfl ?_
        refine j_if_lt (tgt := 62) F d_M_apart_50 (by decide) (fun c_50 => ?_) (fun c_50 => ?_)
        · refine j_iconst (v := (-1)) F d_M_apart_62 (by decide) ?_
          refine j_goto (tgt := 81) F d_M_apart_63 (by decide) ?_
          exact ret _ _ _ _ _ _ () d_M_apart_81 rfl (by decide) (by decide) rfl (by unfold aptP; rw [if_pos (Or.inl ((sl_neg (slP_ok hA0 t k) hb).1 c_50))])
        · refine j_aloadn F d_M_apart_53 0 rfl rfl ?_
          refine j_get (ci := 6) (v := .ref m6) F in_M hK 0 rfl rfl 9 (by decide) (wm k_475) rfl d_M_apart_54 ?_
          refine j_iloadn F d_M_apart_57 2 rfl rfl ?_
          refine j_iald (v := (slP X n t k) c) F hK 6 0 rfl rfl (by omega) (by decide) d_M_apart_58 rfl ?_
          refine j_if_ge (tgt := 66) F d_M_apart_59 (by decide) (fun c_59 => ?_) (fun c_59 => ?_)
          · have hb5 := sN_eq (slP_ok hA0 t k) hb ((sl_neg (slP_ok hA0 t k) hb).2 c_50)
            have hb6 := sN_eq (slP_ok hA0 t k) hc ((sl_neg (slP_ok hA0 t k) hc).2 (fun g => jn_no g c_59))
            have hb51 := hb5.2
            have hb61 := hb6.2
            refine j_aloadn F d_M_apart_66 0 rfl rfl ?_
            refine j_get (ci := 6) (v := .ref m6) F in_M hK 0 rfl rfl 9 (by decide) (wm k_475) rfl d_M_apart_67 ?_
            refine j_iloadn F d_M_apart_70 1 rfl rfl ?_
            refine j_iald (v := nI (sN (slP X n t k) b)) F hK 6 0 rfl rfl (by omega) (by decide) d_M_apart_71 hb5.1 ?_
            refine j_aloadn F d_M_apart_72 0 rfl rfl ?_
            refine j_get (ci := 6) (v := .ref m6) F in_M hK 0 rfl rfl 9 (by decide) (wm k_475) rfl d_M_apart_73 ?_
            refine j_iloadn F d_M_apart_76 2 rfl rfl ?_
            refine j_iald (v := nI (sN (slP X n t k) c)) F hK 6 0 rfl rfl (by omega) (by decide) d_M_apart_77 hb6.1 ?_
            refine j_goi (wc := []) (wr := [(m0, .inr (6, [.int (nI 0), .int now, .int (nI n), .int rf, .ref m1, .ref m2, .ref m3, .ref m4, .ref m5, .ref m6, .ref m7, .ref m8, .ref m9, .ref m10])), (m1, .inl (cA, 80, .inl (X 0))), (m2, .inl (cA, 80, .inl (X 1))), (m3, .inl (cA, 80, .inl (X 2))), (m4, .inl (cA, 80, .inl (X 3))), (m5, .inl (cA, 80, .inl (X 4))), (m6, .inl (cA, 20, .inl (slP X n t k))), (m7, .inl (cA, 10, .inl (ttP X n t k))), (m8, .inl (cA, 10, .inl (smP X n t k))), (m9, .inl (cA, 10, .inl hs)), (m10, .inl (cA, 64, .inl lt))]) hA [] [0, 1, 2, 3, 4, 5, 6, 7, 8, 9, 10] rfl rfl (by decide) (by decide) (fun H locs ls hP hD hl => va_runS (As := [.int (nI (sN (slP X n t k) b)), .int (nI (sN (slP X n t k) c))]) (rest := []) F (ct_M_distance l D cA (sN (slP X n t k) b) (sN (slP X n t k) c) (by omega) (by omega) H.size) ⟨callB_of 2 F.2.2.2.2 (gd k_599) rfl rfl rfl (F.2.2.2.2 _ (wm k_7)) (F.2.2.2.2 _ (wm k_597)) (by decide +kernel) ⟨by decide, by decide⟩, F.2.2.2.2 _ (wm k_598)⟩ (pre_S hK hN hP hD [] rfl (by decide)) rfl rfl hl.1 rfl (lv_room (Nat.le_of_ble_eq_true rfl)) d_M_apart_78 ⟨by decide, by decide⟩) (fun r78 u78 hw78 => ?_)
            subst hw78
            refine j_ws (ws' := [(m0, .inr (6, [.int (nI 0), .int now, .int (nI n), .int rf, .ref m1, .ref m2, .ref m3, .ref m4, .ref m5, .ref m6, .ref m7, .ref m8, .ref m9, .ref m10])), (m1, .inl (cA, 80, .inl (X 0))), (m2, .inl (cA, 80, .inl (X 1))), (m3, .inl (cA, 80, .inl (X 2))), (m4, .inl (cA, 80, .inl (X 3))), (m5, .inl (cA, 80, .inl (X 4))), (m6, .inl (cA, 20, .inl (slP X n t k))), (m7, .inl (cA, 10, .inl (ttP X n t k))), (m8, .inl (cA, 10, .inl (smP X n t k))), (m9, .inl (cA, 10, .inl hs)), (m10, .inl (cA, 64, .inl lt))]) [0, 1, 2, 3, 4, 5, 6, 7, 8, 9, 10] (by decide) rfl ?_
            exact ret _ _ _ _ _ _ () d_M_apart_81 rfl (by decide) (by decide) rfl (by unfold aptP; rw [if_neg (fun h => h.elim ((sl_neg (slP_ok hA0 t k) hb).2 c_50) ((sl_neg (slP_ok hA0 t k) hc).2 (fun g => jn_no g c_59)))])
          · refine j_iconst (v := (-1)) F d_M_apart_62 (by decide) ?_
            refine j_goto (tgt := 81) F d_M_apart_63 (by decide) ?_
            exact ret _ _ _ _ _ _ () d_M_apart_81 rfl (by decide) (by decide) rfl (by unfold aptP; rw [if_pos (Or.inr ((sl_neg (slP_ok hA0 t k) hc).1 (jn_nle c_59)))])
      · exact absurd c_32 (by decide)

set_option maxHeartbeats 4000000 in
set_option maxRecDepth 100000 in
theorem ct_M_apart_no (l : Launch) (D : va_G) (cA : ClassId) (m0 m1 m2 m3 m4 m5 m6 m7 m8 m9 m10 : Nat) (th now : Int32) (n : Nat) (rf : Int32) (X : AF) (sl tt sm hs lt : Nat → Int32) (hA0 : aok X n) (b c t k : Int32) (hbad : ((win b (nI 0) (nI 19) && win c (nI 0) (nI 19)) && (win t (nI 0) (nI 10000) && win k (nI 0) (nI 10000))) = false) : Ci (S := Unit) l y_M_apart (Cond.code y_M_apart c_M_apart 5 (some .int) :: WD) rm_M_apart D vwCl [(cA, .int)] nws [.ref m0, .int b, .int c, .int t, .int k] [(m0, .inr (6, [.int th, .int now, .int (nI n), .int rf, .ref m1, .ref m2, .ref m3, .ref m4, .ref m5, .ref m6, .ref m7, .ref m8, .ref m9, .ref m10])), (m1, .inl (cA, 80, .inl (X 0))), (m2, .inl (cA, 80, .inl (X 1))), (m3, .inl (cA, 80, .inl (X 2))), (m4, .inl (cA, 80, .inl (X 3))), (m5, .inl (cA, 80, .inl (X 4))), (m6, .inl (cA, 20, .inl sl)), (m7, .inl (cA, 10, .inl tt)), (m8, .inl (cA, 10, .inl sm)), (m9, .inl (cA, 10, .inl hs)), (m10, .inl (cA, 64, .inl lt))] 0 0 (fun r _ => r = nI 0) (fun _ => [(m0, .inr (6, [.int (nI 1), .int now, .int (nI n), .int rf, .ref m1, .ref m2, .ref m3, .ref m4, .ref m5, .ref m6, .ref m7, .ref m8, .ref m9, .ref m10])), (m1, .inl (cA, 80, .inl (X 0))), (m2, .inl (cA, 80, .inl (X 1))), (m3, .inl (cA, 80, .inl (X 2))), (m4, .inl (cA, 80, .inl (X 3))), (m5, .inl (cA, 80, .inl (X 4))), (m6, .inl (cA, 20, .inl sl)), (m7, .inl (cA, 10, .inl tt)), (m8, .inl (cA, 10, .inl sm)), (m9, .inl (cA, 10, .inl hs)), (m10, .inl (cA, 64, .inl lt))]) := by
  refine Ci.of (cc := c_M_apart) (nL := 5) (lv := [(0, .ref m0), (1, .int b), (2, .int c), (3, .int t), (4, .int k)]) (by decide) rfl (Nat.le_of_ble_eq_true rfl) rfl ?_
  intro p e s m args below meth cd A Q F hK hN hA ret
  refine j_aloadn F d_M_apart_0 0 rfl rfl ?_
  refine j_iloadn F d_M_apart_1 1 rfl rfl ?_
  refine j_iconst (v := nI 0) F d_M_apart_2 (by decide) ?_
  refine j_bipush (v := nI 19) F d_M_apart_3 (by decide) ?_
  refine j_goi (wc := []) (wr := [(m0, .inr (6, [.int th, .int now, .int (nI n), .int rf, .ref m1, .ref m2, .ref m3, .ref m4, .ref m5, .ref m6, .ref m7, .ref m8, .ref m9, .ref m10])), (m1, .inl (cA, 80, .inl (X 0))), (m2, .inl (cA, 80, .inl (X 1))), (m3, .inl (cA, 80, .inl (X 2))), (m4, .inl (cA, 80, .inl (X 3))), (m5, .inl (cA, 80, .inl (X 4))), (m6, .inl (cA, 20, .inl sl)), (m7, .inl (cA, 10, .inl tt)), (m8, .inl (cA, 10, .inl sm)), (m9, .inl (cA, 10, .inl hs)), (m10, .inl (cA, 64, .inl lt))]) hA [] [0, 1, 2, 3, 4, 5, 6, 7, 8, 9, 10] rfl rfl (by decide) (by decide) (fun H locs ls hP hD hl => va_runS (As := [.int b, .int (nI 0), .int (nI 19)]) (rest := [.ref m0]) F (ct_M_in l D cA b (nI 0) (nI 19) H.size) ⟨callB_of 3 F.2.2.2.2 (gd k_523) rfl rfl rfl (F.2.2.2.2 _ (wm k_7)) (F.2.2.2.2 _ (wm k_521)) (by decide +kernel) ⟨by decide, by decide⟩, F.2.2.2.2 _ (wm k_522)⟩ (pre_S hK hN hP hD [] rfl (by decide)) rfl rfl hl.1 rfl (lv_room (Nat.le_of_ble_eq_true rfl)) d_M_apart_5 ⟨by decide, by decide⟩) (fun r5 u5 hw5 => ?_)
  subst hw5
  refine j_ws (ws' := [(m0, .inr (6, [.int th, .int now, .int (nI n), .int rf, .ref m1, .ref m2, .ref m3, .ref m4, .ref m5, .ref m6, .ref m7, .ref m8, .ref m9, .ref m10])), (m1, .inl (cA, 80, .inl (X 0))), (m2, .inl (cA, 80, .inl (X 1))), (m3, .inl (cA, 80, .inl (X 2))), (m4, .inl (cA, 80, .inl (X 3))), (m5, .inl (cA, 80, .inl (X 4))), (m6, .inl (cA, 20, .inl sl)), (m7, .inl (cA, 10, .inl tt)), (m8, .inl (cA, 10, .inl sm)), (m9, .inl (cA, 10, .inl hs)), (m10, .inl (cA, 64, .inl lt))]) [0, 1, 2, 3, 4, 5, 6, 7, 8, 9, 10] (by decide) rfl ?_
  refine j_if_eq (tgt := 25) F d_M_apart_8 (by decide) (fun c_8 => ?_) (fun c_8 => ?_)
  · refine j_iconst (v := nI 0) F d_M_apart_25 (by decide) ?_
    refine j_iloadn F d_M_apart_26 3 rfl rfl ?_
    refine j_iload F d_M_apart_27 4 rfl ?_
    refine j_goi (wc := [(m0, .inr (6, [.int th, .int now, .int (nI n), .int rf, .ref m1, .ref m2, .ref m3, .ref m4, .ref m5, .ref m6, .ref m7, .ref m8, .ref m9, .ref m10])), (m1, .inl (cA, 80, .inl (X 0))), (m2, .inl (cA, 80, .inl (X 1))), (m3, .inl (cA, 80, .inl (X 2))), (m4, .inl (cA, 80, .inl (X 3))), (m5, .inl (cA, 80, .inl (X 4))), (m6, .inl (cA, 20, .inl sl)), (m7, .inl (cA, 10, .inl tt)), (m8, .inl (cA, 10, .inl sm)), (m9, .inl (cA, 10, .inl hs)), (m10, .inl (cA, 64, .inl lt))]) (wr := []) hA [0, 1, 2, 3, 4, 5, 6, 7, 8, 9, 10] [] rfl rfl (by decide) (by decide) (fun H locs ls hP hD hl => va_runV (As := [.int (nI 0), .int t, .int k]) (rest := []) F (ct_M_isAsked_no l D cA m0 m1 m2 m3 m4 m5 m6 m7 m8 m9 m10 th now n rf X sl tt sm hs lt hA0 false t k rfl H.size) ⟨callB_of 3 F.2.2.2.2 (gd k_540) rfl rfl rfl (F.2.2.2.2 _ (wm k_7)) (F.2.2.2.2 _ (wm k_537)) (by decide +kernel) ⟨by decide, by decide⟩, F.2.2.2.2 _ (wm k_539), F.2.2.2.2 _ (wm ks_26)⟩ (pre_V rfl hK hN hP hD [0, 1, 2, 3, 4, 5, 6, 7, 8, 9, 10] rfl (by decide) 0 rfl rfl) rfl rfl hl.1 rfl (lv_room (Nat.le_of_ble_eq_true rfl)) d_M_apart_29 ⟨by decide, by decide⟩) (fun r29 u29 hw29 => ?_)
    subst hw29
    refine j_ws (ws' := [(m0, .inr (6, [.int (nI 1), .int now, .int (nI n), .int rf, .ref m1, .ref m2, .ref m3, .ref m4, .ref m5, .ref m6, .ref m7, .ref m8, .ref m9, .ref m10])), (m1, .inl (cA, 80, .inl (X 0))), (m2, .inl (cA, 80, .inl (X 1))), (m3, .inl (cA, 80, .inl (X 2))), (m4, .inl (cA, 80, .inl (X 3))), (m5, .inl (cA, 80, .inl (X 4))), (m6, .inl (cA, 20, .inl sl)), (m7, .inl (cA, 10, .inl tt)), (m8, .inl (cA, 10, .inl sm)), (m9, .inl (cA, 10, .inl hs)), (m10, .inl (cA, 64, .inl lt))]) [0, 1, 2, 3, 4, 5, 6, 7, 8, 9, 10] (by decide) rfl ?_
    refine j_if_ne (tgt := 37) F d_M_apart_32 (by decide) (fun c_32 => ?_) (fun c_32 => ?_)
    · exact absurd rfl c_32
    · refine j_iconst (v := nI 0) F d_M_apart_35 (by decide) ?_
      exact ret _ _ _ _ _ _ () d_M_apart_36 rfl (by decide) (by decide) rfl rfl
  · refine j_iloadn F d_M_apart_11 2 rfl rfl ?_
    refine j_iconst (v := nI 0) F d_M_apart_12 (by decide) ?_
    refine j_bipush (v := nI 19) F d_M_apart_13 (by decide) ?_
    refine j_goi (wc := []) (wr := [(m0, .inr (6, [.int th, .int now, .int (nI n), .int rf, .ref m1, .ref m2, .ref m3, .ref m4, .ref m5, .ref m6, .ref m7, .ref m8, .ref m9, .ref m10])), (m1, .inl (cA, 80, .inl (X 0))), (m2, .inl (cA, 80, .inl (X 1))), (m3, .inl (cA, 80, .inl (X 2))), (m4, .inl (cA, 80, .inl (X 3))), (m5, .inl (cA, 80, .inl (X 4))), (m6, .inl (cA, 20, .inl sl)), (m7, .inl (cA, 10, .inl tt)), (m8, .inl (cA, 10, .inl sm)), (m9, .inl (cA, 10, .inl hs)), (m10, .inl (cA, 64, .inl lt))]) hA [] [0, 1, 2, 3, 4, 5, 6, 7, 8, 9, 10] rfl rfl (by decide) (by decide) (fun H locs ls hP hD hl => va_runS (As := [.int c, .int (nI 0), .int (nI 19)]) (rest := [.ref m0]) F (ct_M_in l D cA c (nI 0) (nI 19) H.size) ⟨callB_of 3 F.2.2.2.2 (gd k_523) rfl rfl rfl (F.2.2.2.2 _ (wm k_7)) (F.2.2.2.2 _ (wm k_521)) (by decide +kernel) ⟨by decide, by decide⟩, F.2.2.2.2 _ (wm k_522)⟩ (pre_S hK hN hP hD [] rfl (by decide)) rfl rfl hl.1 rfl (lv_room (Nat.le_of_ble_eq_true rfl)) d_M_apart_15 ⟨by decide, by decide⟩) (fun r15 u15 hw15 => ?_)
    subst hw15
    refine j_ws (ws' := [(m0, .inr (6, [.int th, .int now, .int (nI n), .int rf, .ref m1, .ref m2, .ref m3, .ref m4, .ref m5, .ref m6, .ref m7, .ref m8, .ref m9, .ref m10])), (m1, .inl (cA, 80, .inl (X 0))), (m2, .inl (cA, 80, .inl (X 1))), (m3, .inl (cA, 80, .inl (X 2))), (m4, .inl (cA, 80, .inl (X 3))), (m5, .inl (cA, 80, .inl (X 4))), (m6, .inl (cA, 20, .inl sl)), (m7, .inl (cA, 10, .inl tt)), (m8, .inl (cA, 10, .inl sm)), (m9, .inl (cA, 10, .inl hs)), (m10, .inl (cA, 64, .inl lt))]) [0, 1, 2, 3, 4, 5, 6, 7, 8, 9, 10] (by decide) rfl ?_
    refine j_if_eq (tgt := 25) F d_M_apart_18 (by decide) (fun c_18 => ?_) (fun c_18 => ?_)
    · refine j_iconst (v := nI 0) F d_M_apart_25 (by decide) ?_
      refine j_iloadn F d_M_apart_26 3 rfl rfl ?_
      refine j_iload F d_M_apart_27 4 rfl ?_
      refine j_goi (wc := [(m0, .inr (6, [.int th, .int now, .int (nI n), .int rf, .ref m1, .ref m2, .ref m3, .ref m4, .ref m5, .ref m6, .ref m7, .ref m8, .ref m9, .ref m10])), (m1, .inl (cA, 80, .inl (X 0))), (m2, .inl (cA, 80, .inl (X 1))), (m3, .inl (cA, 80, .inl (X 2))), (m4, .inl (cA, 80, .inl (X 3))), (m5, .inl (cA, 80, .inl (X 4))), (m6, .inl (cA, 20, .inl sl)), (m7, .inl (cA, 10, .inl tt)), (m8, .inl (cA, 10, .inl sm)), (m9, .inl (cA, 10, .inl hs)), (m10, .inl (cA, 64, .inl lt))]) (wr := []) hA [0, 1, 2, 3, 4, 5, 6, 7, 8, 9, 10] [] rfl rfl (by decide) (by decide) (fun H locs ls hP hD hl => va_runV (As := [.int (nI 0), .int t, .int k]) (rest := []) F (ct_M_isAsked_no l D cA m0 m1 m2 m3 m4 m5 m6 m7 m8 m9 m10 th now n rf X sl tt sm hs lt hA0 false t k rfl H.size) ⟨callB_of 3 F.2.2.2.2 (gd k_540) rfl rfl rfl (F.2.2.2.2 _ (wm k_7)) (F.2.2.2.2 _ (wm k_537)) (by decide +kernel) ⟨by decide, by decide⟩, F.2.2.2.2 _ (wm k_539), F.2.2.2.2 _ (wm ks_26)⟩ (pre_V rfl hK hN hP hD [0, 1, 2, 3, 4, 5, 6, 7, 8, 9, 10] rfl (by decide) 0 rfl rfl) rfl rfl hl.1 rfl (lv_room (Nat.le_of_ble_eq_true rfl)) d_M_apart_29 ⟨by decide, by decide⟩) (fun r29 u29 hw29 => ?_)
      subst hw29
      refine j_ws (ws' := [(m0, .inr (6, [.int (nI 1), .int now, .int (nI n), .int rf, .ref m1, .ref m2, .ref m3, .ref m4, .ref m5, .ref m6, .ref m7, .ref m8, .ref m9, .ref m10])), (m1, .inl (cA, 80, .inl (X 0))), (m2, .inl (cA, 80, .inl (X 1))), (m3, .inl (cA, 80, .inl (X 2))), (m4, .inl (cA, 80, .inl (X 3))), (m5, .inl (cA, 80, .inl (X 4))), (m6, .inl (cA, 20, .inl sl)), (m7, .inl (cA, 10, .inl tt)), (m8, .inl (cA, 10, .inl sm)), (m9, .inl (cA, 10, .inl hs)), (m10, .inl (cA, 64, .inl lt))]) [0, 1, 2, 3, 4, 5, 6, 7, 8, 9, 10] (by decide) rfl ?_
      refine j_if_ne (tgt := 37) F d_M_apart_32 (by decide) (fun c_32 => ?_) (fun c_32 => ?_)
      · exact absurd rfl c_32
      · refine j_iconst (v := nI 0) F d_M_apart_35 (by decide) ?_
        exact ret _ _ _ _ _ _ () d_M_apart_36 rfl (by decide) (by decide) rfl rfl
    · refine j_iconst (v := nI 1) F d_M_apart_21 (by decide) ?_
      refine j_goto (tgt := 26) F d_M_apart_22 (by decide) ?_
      refine j_iloadn F d_M_apart_26 3 rfl rfl ?_
      refine j_iload F d_M_apart_27 4 rfl ?_
      refine j_goi (wc := [(m0, .inr (6, [.int th, .int now, .int (nI n), .int rf, .ref m1, .ref m2, .ref m3, .ref m4, .ref m5, .ref m6, .ref m7, .ref m8, .ref m9, .ref m10])), (m1, .inl (cA, 80, .inl (X 0))), (m2, .inl (cA, 80, .inl (X 1))), (m3, .inl (cA, 80, .inl (X 2))), (m4, .inl (cA, 80, .inl (X 3))), (m5, .inl (cA, 80, .inl (X 4))), (m6, .inl (cA, 20, .inl sl)), (m7, .inl (cA, 10, .inl tt)), (m8, .inl (cA, 10, .inl sm)), (m9, .inl (cA, 10, .inl hs)), (m10, .inl (cA, 64, .inl lt))]) (wr := []) hA [0, 1, 2, 3, 4, 5, 6, 7, 8, 9, 10] [] rfl rfl (by decide) (by decide) (fun H locs ls hP hD hl => va_runV (As := [.int (nI 1), .int t, .int k]) (rest := []) F (ct_M_isAsked_no l D cA m0 m1 m2 m3 m4 m5 m6 m7 m8 m9 m10 th now n rf X sl tt sm hs lt hA0 true t k (by rw [bI_1 c_8, bI_1 c_18] at hbad; exact hbad) H.size) ⟨callB_of 3 F.2.2.2.2 (gd k_540) rfl rfl rfl (F.2.2.2.2 _ (wm k_7)) (F.2.2.2.2 _ (wm k_537)) (by decide +kernel) ⟨by decide, by decide⟩, F.2.2.2.2 _ (wm k_539), F.2.2.2.2 _ (wm ks_26)⟩ (pre_V rfl hK hN hP hD [0, 1, 2, 3, 4, 5, 6, 7, 8, 9, 10] rfl (by decide) 0 rfl rfl) rfl rfl hl.1 rfl (lv_room (Nat.le_of_ble_eq_true rfl)) d_M_apart_29 ⟨by decide, by decide⟩) (fun r29 u29 hw29 => ?_)
      subst hw29
      refine j_ws (ws' := [(m0, .inr (6, [.int (nI 1), .int now, .int (nI n), .int rf, .ref m1, .ref m2, .ref m3, .ref m4, .ref m5, .ref m6, .ref m7, .ref m8, .ref m9, .ref m10])), (m1, .inl (cA, 80, .inl (X 0))), (m2, .inl (cA, 80, .inl (X 1))), (m3, .inl (cA, 80, .inl (X 2))), (m4, .inl (cA, 80, .inl (X 3))), (m5, .inl (cA, 80, .inl (X 4))), (m6, .inl (cA, 20, .inl sl)), (m7, .inl (cA, 10, .inl tt)), (m8, .inl (cA, 10, .inl sm)), (m9, .inl (cA, 10, .inl hs)), (m10, .inl (cA, 64, .inl lt))]) [0, 1, 2, 3, 4, 5, 6, 7, 8, 9, 10] (by decide) rfl ?_
      refine j_if_ne (tgt := 37) F d_M_apart_32 (by decide) (fun c_32 => ?_) (fun c_32 => ?_)
      · exact absurd rfl c_32
      · refine j_iconst (v := nI 0) F d_M_apart_35 (by decide) ?_
        exact ret _ _ _ _ _ _ () d_M_apart_36 rfl (by decide) (by decide) rfl rfl

def rm_M_lying : Room := { frames := 0, cells := 0, slots := 0, locals := 0 }
set_option maxHeartbeats 4000000 in
set_option maxRecDepth 100000 in
theorem ct_M_lying (l : Launch) (D : va_G) (cA : ClassId) (m0 m1 m2 m3 m4 m5 m6 m7 m8 m9 m10 : Nat) (th now : Int32) (n : Nat) (rf : Int32) (X : AF) (sl tt sm hs lt : Nat → Int32) (hA0 : aok X n) (hsl : slOk sl) (j : Nat) (hj : j < (lyT sl 20).length) : Ci (S := Unit) l y_M_lying (Cond.code y_M_lying c_M_lying 4 (some .int) :: WD) rm_M_lying D vwCl [(cA, .int)] nws [.ref m0, .int (nI j)] [(m0, .inr (6, [.int th, .int now, .int (nI n), .int rf, .ref m1, .ref m2, .ref m3, .ref m4, .ref m5, .ref m6, .ref m7, .ref m8, .ref m9, .ref m10])), (m1, .inl (cA, 80, .inl (X 0))), (m2, .inl (cA, 80, .inl (X 1))), (m3, .inl (cA, 80, .inl (X 2))), (m4, .inl (cA, 80, .inl (X 3))), (m5, .inl (cA, 80, .inl (X 4))), (m6, .inl (cA, 20, .inl sl)), (m7, .inl (cA, 10, .inl tt)), (m8, .inl (cA, 10, .inl sm)), (m9, .inl (cA, 10, .inl hs)), (m10, .inl (cA, 64, .inl lt))] 0 0 (fun r _ => r = nI ((lyT sl 20).getD j 0)) (fun _ => [(m0, .inr (6, [.int th, .int now, .int (nI n), .int rf, .ref m1, .ref m2, .ref m3, .ref m4, .ref m5, .ref m6, .ref m7, .ref m8, .ref m9, .ref m10])), (m1, .inl (cA, 80, .inl (X 0))), (m2, .inl (cA, 80, .inl (X 1))), (m3, .inl (cA, 80, .inl (X 2))), (m4, .inl (cA, 80, .inl (X 3))), (m5, .inl (cA, 80, .inl (X 4))), (m6, .inl (cA, 20, .inl sl)), (m7, .inl (cA, 10, .inl tt)), (m8, .inl (cA, 10, .inl sm)), (m9, .inl (cA, 10, .inl hs)), (m10, .inl (cA, 64, .inl lt))]) := by
  refine Ci.of (cc := c_M_lying) (nL := 4) (lv := [(0, .ref m0), (1, .int (nI j))]) (by decide) rfl (Nat.le_of_ble_eq_true rfl) rfl ?_
  intro p e s m args below meth cd A Q F hK hN hA ret
  have h80 := hA0.1
  have hl20 := lyT_len sl 20
  refine j_iloadn F d_M_lying_0 1 rfl rfl ?_
  refine j_istoren (lv' := [(2, .int (nI j)), (0, .ref m0), (1, .int (nI j))]) F d_M_lying_1 rfl (by decide) rfl ?_
  refine j_iconst (v := nI 0) F d_M_lying_2 (by decide) ?_
  refine j_istoren (lv' := [(3, .int (nI 0)), (2, .int (nI j)), (0, .ref m0), (1, .int (nI j))]) F d_M_lying_3 rfl (by decide) rfl ?_
  have loop4 : ∀ (fuel : Nat) (b q : Nat) (hfuel4 : 20 - b < fuel) (hb : b ≤ 20) (hq : q + (lyT sl b).length = j), J p l e rm_M_lying s m args below meth cd D vwCl A s.heap 4 0 0 Q [(m0, .inr (6, [.int th, .int now, .int (nI n), .int rf, .ref m1, .ref m2, .ref m3, .ref m4, .ref m5, .ref m6, .ref m7, .ref m8, .ref m9, .ref m10])), (m1, .inl (cA, 80, .inl (X 0))), (m2, .inl (cA, 80, .inl (X 1))), (m3, .inl (cA, 80, .inl (X 2))), (m4, .inl (cA, 80, .inl (X 3))), (m5, .inl (cA, 80, .inl (X 4))), (m6, .inl (cA, 20, .inl sl)), (m7, .inl (cA, 10, .inl tt)), (m8, .inl (cA, 10, .inl sm)), (m9, .inl (cA, 10, .inl hs)), (m10, .inl (cA, 64, .inl lt))] [(0, .ref m0), (1, .int (nI j)), (2, .int (nI q)), (3, .int (nI b))] 4 [] := by
    intro fuel
    induction fuel with
    | zero => intro b q hfuel; exact absurd hfuel (Nat.not_lt_zero _)
    | succ fuel ih4 =>
      intro b q hfuel4 hb hq
      have hlb := lyT_len sl 20
      refine j_iloadn F d_M_lying_4 3 rfl rfl ?_
      refine j_bipush (v := nI 20) F d_M_lying_5 (by decide) ?_
      refine j_ic_ge (tgt := 53) F d_M_lying_7 (by decide) (fun c_7 => ?_) (fun c_7 => ?_)
      · have c_7 : 20 ≤ b := (nI_leI (by omega) (by omega)).mp c_7
        have hin : b = 20 := by omega
        subst hin
        exact absurd hq (by omega)
      · have c_7 : ¬ 20 ≤ b := fun h => c_7 ((nI_leI (by omega) (by omega)).mpr h)
        refine j_aloadn F d_M_lying_10 0 rfl rfl ?_
        refine j_get (ci := 6) (v := .ref m6) F in_M hK 0 rfl rfl 9 (by decide) (wm k_475) rfl d_M_lying_11 ?_
        refine j_iloadn F d_M_lying_14 3 rfl rfl ?_
        refine j_iald (v := sl b) F hK 6 0 rfl rfl (by omega) (by decide) d_M_lying_15 rfl ?_
        refine j_if_lt (tgt := 30) F d_M_lying_16 (by decide) (fun c_16 => ?_) (fun c_16 => ?_)
        · refine j_iloadn F d_M_lying_30 2 rfl rfl ?_
          refine j_aloadn F d_M_lying_31 0 rfl rfl ?_
          refine j_get (ci := 6) (v := .ref m6) F in_M hK 0 rfl rfl 9 (by decide) (wm k_475) rfl d_M_lying_32 ?_
          refine j_iloadn F d_M_lying_35 3 rfl rfl ?_
          refine j_iald (v := sl b) F hK 6 0 rfl rfl (by omega) (by decide) d_M_lying_36 rfl ?_
          refine j_if_lt (tgt := 44) F d_M_lying_37 (by decide) (fun c_37 => ?_) (fun c_37 => ?_)
          · refine j_iconst (v := nI 0) F d_M_lying_44 (by decide) ?_
            refine j_isub (v := nI (q - 0)) F d_M_lying_45 (pk_sub (by omega)) ?_
            refine j_istoren (lv' := [(2, .int (nI (q - 0))), (0, .ref m0), (1, .int (nI j)), (3, .int (nI b))]) F d_M_lying_46 rfl (by decide) rfl ?_
            refine j_iinc (v := nI (b + 1)) (lv' := [(3, .int (nI (b + 1))), (2, .int (nI (q - 0))), (0, .ref m0), (1, .int (nI j))]) F d_M_lying_47 3 rfl (jn_inc b) (by decide) rfl ?_
            refine j_goto (tgt := 4) F d_M_lying_50 (by decide) ?_
            refine j_lv (lv' := [(0, .ref m0), (1, .int (nI j)), (2, .int (nI (q - 0))), (3, .int (nI (b + 1)))]) [2, 3, 1, 0] rfl ?_
            exact ih4 (b + 1) q (by omega) (by omega) (by rw [lyT_f ((sl_neg hsl (by omega)).1 c_37)]; exact hq)
          · exact absurd c_16 c_37
        · refine j_iloadn F d_M_lying_19 2 rfl rfl ?_
          refine j_if_ne (tgt := 30) F d_M_lying_20 (by decide) (fun c_20 => ?_) (fun c_20 => ?_)
          · have c_20 : ¬ q = 0 := fun h => c_20 ((nI_eq (by omega) (by omega)).mpr h)
            refine j_iloadn F d_M_lying_30 2 rfl rfl ?_
            refine j_aloadn F d_M_lying_31 0 rfl rfl ?_
            refine j_get (ci := 6) (v := .ref m6) F in_M hK 0 rfl rfl 9 (by decide) (wm k_475) rfl d_M_lying_32 ?_
            refine j_iloadn F d_M_lying_35 3 rfl rfl ?_
            refine j_iald (v := sl b) F hK 6 0 rfl rfl (by omega) (by decide) d_M_lying_36 rfl ?_
            refine j_if_lt (tgt := 44) F d_M_lying_37 (by decide) (fun c_37 => ?_) (fun c_37 => ?_)
            · exact absurd c_37 c_16
            · have hq1 : 1 ≤ q := by omega
              refine j_iconst (v := nI 1) F d_M_lying_40 (by decide) ?_
              refine j_goto (tgt := 45) F d_M_lying_41 (by decide) ?_
              refine j_isub (v := nI (q - 1)) F d_M_lying_45 (pk_sub (by omega)) ?_
              refine j_istoren (lv' := [(2, .int (nI (q - 1))), (0, .ref m0), (1, .int (nI j)), (3, .int (nI b))]) F d_M_lying_46 rfl (by decide) rfl ?_
              refine j_iinc (v := nI (b + 1)) (lv' := [(3, .int (nI (b + 1))), (2, .int (nI (q - 1))), (0, .ref m0), (1, .int (nI j))]) F d_M_lying_47 3 rfl (jn_inc b) (by decide) rfl ?_
              refine j_goto (tgt := 4) F d_M_lying_50 (by decide) ?_
              refine j_lv (lv' := [(0, .ref m0), (1, .int (nI j)), (2, .int (nI (q - 1))), (3, .int (nI (b + 1)))]) [2, 3, 1, 0] rfl ?_
              exact ih4 (b + 1) (q - 1) (by omega) (by omega) (by rw [lyT_t ((sl_neg hsl (by omega)).2 c_37), List.length_append]; simp; omega)
          · have c_20 : q = 0 := (nI_eq (by omega) (by omega)).mp c_20
            refine j_aloadn F d_M_lying_23 0 rfl rfl ?_
            refine j_get (ci := 6) (v := .ref m6) F in_M hK 0 rfl rfl 9 (by decide) (wm k_475) rfl d_M_lying_24 ?_
            refine j_iloadn F d_M_lying_27 3 rfl rfl ?_
            refine j_iald (v := sl b) F hK 6 0 rfl rfl (by omega) (by decide) d_M_lying_28 rfl ?_
            exact ret _ _ _ _ _ _ () d_M_lying_29 rfl (by decide) (by decide) rfl (by
              have e0 : (lyT sl b).length = j := by omega
              have hn := (sl_neg hsl (b := b) (by omega)).2 c_16
              rw [← e0, lyT_at (by omega) hn]
              exact (sN_eq hsl (by omega) hn).1)
  refine j_lv (lv' := [(0, .ref m0), (1, .int (nI j)), (2, .int (nI j)), (3, .int (nI 0))]) [2, 3, 1, 0] rfl ?_
  exact loop4 (20 + 1) 0 j (by omega) (by omega) rfl

def rm_M_ones : Room := { frames := 0, cells := 0, slots := 0, locals := 0 }
set_option maxHeartbeats 4000000 in
set_option maxRecDepth 100000 in
theorem ct_M_ones (l : Launch) (D : va_G) (cA : ClassId) (t : Nat) (ht : t < 64) : Ci (S := Unit) l y_M_ones (Cond.code y_M_ones c_M_ones 3 (some .int) :: WD) rm_M_ones D vwCl [(cA, .int)] nws [.int (nI t)] [] 0 0 (fun r _ => r = nI (pop t)) (fun _ => []) := by
  refine Ci.of (cc := c_M_ones) (nL := 3) (lv := [(0, .int (nI t))]) (by decide) rfl (Nat.le_of_ble_eq_true rfl) rfl ?_
  intro p e s m args below meth cd A Q F hK hN hA ret
  refine j_iconst (v := nI 0) F d_M_ones_0 (by decide) ?_
  refine j_istoren (lv' := [(1, .int (nI 0)), (0, .int (nI t))]) F d_M_ones_1 rfl (by decide) rfl ?_
  refine j_iconst (v := nI 0) F d_M_ones_2 (by decide) ?_
  refine j_istoren (lv' := [(2, .int (nI 0)), (1, .int (nI 0)), (0, .int (nI t))]) F d_M_ones_3 rfl (by decide) rfl ?_
  have loop4 : ∀ (fuel : Nat) (i : Nat) (hfuel4 : 6 - i < fuel) (hi : i ≤ 6), J p l e rm_M_ones s m args below meth cd D vwCl A s.heap 3 0 0 Q [] [(0, .int (nI t)), (1, .int (nI (popT t i))), (2, .int (nI i))] 4 [] := by
    intro fuel
    induction fuel with
    | zero => intro i hfuel; exact absurd hfuel (Nat.not_lt_zero _)
    | succ fuel ih4 =>
      intro i hfuel4 hi
      refine j_iloadn F d_M_ones_4 2 rfl rfl ?_
      refine j_bipush (v := nI 6) F d_M_ones_5 (by decide) ?_
      refine j_ic_ge (tgt := 24) F d_M_ones_7 (by decide) (fun c_7 => ?_) (fun c_7 => ?_)
      · have c_7 : 6 ≤ i := (nI_leI (by omega) (by omega)).mp c_7
        have hin : i = 6 := by omega
        subst hin
        refine j_iloadn F d_M_ones_24 1 rfl rfl ?_
        exact ret _ _ _ _ _ _ () d_M_ones_25 rfl (by decide) (by decide) rfl (by rw [popT_6 t ht])
      · have c_7 : ¬ 6 ≤ i := fun h => c_7 ((nI_leI (by omega) (by omega)).mpr h)
        refine j_iloadn F d_M_ones_10 1 rfl rfl ?_
        refine j_iloadn F d_M_ones_11 0 rfl rfl ?_
        refine j_iloadn F d_M_ones_12 2 rfl rfl ?_
        refine j_ishr (v := nI t >>> (nI i &&& 31)) F d_M_ones_13 rfl ?_
        refine j_iconst (v := nI 1) F d_M_ones_14 (by decide) ?_
        refine j_iand (v := nI (t / 2 ^ i % 2)) F d_M_ones_15 (bit_sh1 t ht i (by omega)) ?_
        refine j_iadd (v := nI (popT t i + (t / 2 ^ i % 2))) F d_M_ones_16 (nI_add _ _) ?_
        refine j_istoren (lv' := [(1, .int (nI (popT t i + (t / 2 ^ i % 2)))), (0, .int (nI t)), (2, .int (nI i))]) F d_M_ones_17 rfl (by decide) rfl ?_
        refine j_iinc (v := nI (i + 1)) (lv' := [(2, .int (nI (i + 1))), (1, .int (nI (popT t i + (t / 2 ^ i % 2)))), (0, .int (nI t))]) F d_M_ones_18 2 rfl (jn_inc i) (by decide) rfl ?_
        refine j_goto (tgt := 4) F d_M_ones_21 (by decide) ?_
        refine j_lv (lv' := [(0, .int (nI t)), (1, .int (nI (popT t i + (t / 2 ^ i % 2)))), (2, .int (nI (i + 1)))]) [2, 1, 0] rfl ?_
        exact ih4 (i + 1) (by omega) (by omega)
  refine j_lv (lv' := [(0, .int (nI t)), (1, .int (nI 0)), (2, .int (nI 0))]) [2, 1, 0] rfl ?_
  exact loop4 (6 + 1) 0 (by omega) (by omega)

def rm_M_leastOf : Room := { frames := 2, cells := 0, slots := 0, locals := 41 }
set_option maxHeartbeats 4000000 in
set_option maxRecDepth 100000 in
theorem ct_M_leastOf (l : Launch) (D : va_G) (cA : ClassId) (m0 m1 m2 m3 m4 m5 m6 m7 m8 m9 m10 : Nat) (th now : Int32) (n : Nat) (rf : Int32) (X : AF) (sl tt sm hs lt : Nat → Int32) (hA0 : aok X n) (hsl : slOk sl) (F1 : List Nat) (hF1 : F1 = lyT sl 20) (hF6 : F1.length ≤ 6) : Ci (S := (Nat → Int32)) l y_M_leastOf (Cond.code y_M_leastOf c_M_leastOf 6 (some .int) :: WD) rm_M_leastOf D vwCl [(cA, .int)] nws [.ref m0, .int (nI F1.length)] [(m0, .inr (6, [.int th, .int now, .int (nI n), .int rf, .ref m1, .ref m2, .ref m3, .ref m4, .ref m5, .ref m6, .ref m7, .ref m8, .ref m9, .ref m10])), (m1, .inl (cA, 80, .inl (X 0))), (m2, .inl (cA, 80, .inl (X 1))), (m3, .inl (cA, 80, .inl (X 2))), (m4, .inl (cA, 80, .inl (X 3))), (m5, .inl (cA, 80, .inl (X 4))), (m6, .inl (cA, 20, .inl sl)), (m7, .inl (cA, 10, .inl tt)), (m8, .inl (cA, 10, .inl sm)), (m9, .inl (cA, 10, .inl hs)), (m10, .inl (cA, 64, .inl lt))] 0 0 (fun r _ => r = nI (cst F1 (2 ^ F1.length - 1))) (fun u => [(m0, .inr (6, [.int th, .int now, .int (nI n), .int rf, .ref m1, .ref m2, .ref m3, .ref m4, .ref m5, .ref m6, .ref m7, .ref m8, .ref m9, .ref m10])), (m1, .inl (cA, 80, .inl (X 0))), (m2, .inl (cA, 80, .inl (X 1))), (m3, .inl (cA, 80, .inl (X 2))), (m4, .inl (cA, 80, .inl (X 3))), (m5, .inl (cA, 80, .inl (X 4))), (m6, .inl (cA, 20, .inl sl)), (m7, .inl (cA, 10, .inl tt)), (m8, .inl (cA, 10, .inl sm)), (m9, .inl (cA, 10, .inl hs)), (m10, .inl (cA, 64, .inl u))]) := by
  refine Ci.of (cc := c_M_leastOf) (nL := 6) (lv := [(0, .ref m0), (1, .int (nI F1.length))]) (by decide) rfl (Nat.le_of_ble_eq_true rfl) rfl ?_
  intro p e s m args below meth cd A Q F hK hN hA ret
  have h80 := hA0.1
  have hpw := pow_le F1.length (by omega)
  have hF100 : ∀ y, y ∈ F1 → y < 100 := by rw [hF1]; exact lyT_lt hsl (Nat.le_refl _)
  refine j_aloadn F d_M_leastOf_0 0 rfl rfl ?_
  refine j_get (ci := 6) (v := .ref m10) F in_M hK 0 rfl rfl 13 (by decide) (wm k_479) rfl d_M_leastOf_1 ?_
  refine j_iconst (v := nI 0) F d_M_leastOf_4 (by decide) ?_
  refine j_iconst (v := nI 0) F d_M_leastOf_5 (by decide) ?_
  refine j_iast (ws' := [(m0, .inr (6, [.int th, .int now, .int (nI n), .int rf, .ref m1, .ref m2, .ref m3, .ref m4, .ref m5, .ref m6, .ref m7, .ref m8, .ref m9, .ref m10])), (m1, .inl (cA, 80, .inl (X 0))), (m2, .inl (cA, 80, .inl (X 1))), (m3, .inl (cA, 80, .inl (X 2))), (m4, .inl (cA, 80, .inl (X 3))), (m5, .inl (cA, 80, .inl (X 4))), (m6, .inl (cA, 20, .inl sl)), (m7, .inl (cA, 10, .inl tt)), (m8, .inl (cA, 10, .inl sm)), (m9, .inl (cA, 10, .inl hs)), (m10, .inl (cA, 64, .inl (upd lt 0 (nI 0))))]) F hK 10 0 rfl rfl (by omega) (by decide) d_M_leastOf_6 rfl ?_
  refine j_iconst (v := nI 1) F d_M_leastOf_7 (by decide) ?_
  refine j_istoren (lv' := [(2, .int (nI 1)), (0, .ref m0), (1, .int (nI F1.length))]) F d_M_leastOf_8 rfl (by decide) rfl ?_
  have loop9 : ∀ (fuel : Nat) (t : Nat) (g : Nat → Int32) (hfuel9 : 2 ^ F1.length - t < fuel) (ht1 : 1 ≤ t) (ht2 : t ≤ 2 ^ F1.length) (hC : ∀ j, j < t → g j = nI (cst F1 j)), J p l e rm_M_leastOf s m args below meth cd D vwCl A s.heap 6 0 0 Q [(m0, .inr (6, [.int th, .int now, .int (nI n), .int rf, .ref m1, .ref m2, .ref m3, .ref m4, .ref m5, .ref m6, .ref m7, .ref m8, .ref m9, .ref m10])), (m1, .inl (cA, 80, .inl (X 0))), (m2, .inl (cA, 80, .inl (X 1))), (m3, .inl (cA, 80, .inl (X 2))), (m4, .inl (cA, 80, .inl (X 3))), (m5, .inl (cA, 80, .inl (X 4))), (m6, .inl (cA, 20, .inl sl)), (m7, .inl (cA, 10, .inl tt)), (m8, .inl (cA, 10, .inl sm)), (m9, .inl (cA, 10, .inl hs)), (m10, .inl (cA, 64, .inl g))] [(0, .ref m0), (1, .int (nI F1.length)), (2, .int (nI t))] 9 [] := by
    intro fuel
    induction fuel with
    | zero => intro t g hfuel; exact absurd hfuel (Nat.not_lt_zero _)
    | succ fuel ih9 =>
      intro t g hfuel9 ht1 ht2 hC
      refine j_iloadn F d_M_leastOf_9 2 rfl rfl ?_
      refine j_iconst (v := nI 1) F d_M_leastOf_10 (by decide) ?_
      refine j_iloadn F d_M_leastOf_11 1 rfl rfl ?_
      refine j_ishl (v := nI (2 ^ F1.length)) F d_M_leastOf_12 (bit_shl F1.length (by omega)) ?_
      refine j_ic_ge (tgt := 119) F d_M_leastOf_13 (by decide) (fun c_13 => ?_) (fun c_13 => ?_)
      · have c_13 : (2 ^ F1.length) ≤ t := (nI_leI (by omega) (by omega)).mp c_13
        refine j_aloadn F d_M_leastOf_119 0 rfl rfl ?_
        refine j_get (ci := 6) (v := .ref m10) F in_M hK 0 rfl rfl 13 (by decide) (wm k_479) rfl d_M_leastOf_120 ?_
        refine j_iconst (v := nI 1) F d_M_leastOf_123 (by decide) ?_
        refine j_iloadn F d_M_leastOf_124 1 rfl rfl ?_
        refine j_ishl (v := nI (2 ^ F1.length)) F d_M_leastOf_125 (bit_shl F1.length (by omega)) ?_
        refine j_iconst (v := nI 1) F d_M_leastOf_126 (by decide) ?_
        refine j_isub (v := nI ((2 ^ F1.length) - 1)) F d_M_leastOf_127 (pk_sub (by omega)) ?_
        refine j_iald (v := nI (cst F1 (2 ^ F1.length - 1))) F hK 10 0 rfl rfl (by omega) (by decide) d_M_leastOf_128 (hC _ (by omega)) ?_
        exact ret _ _ _ _ _ _ g d_M_leastOf_129 rfl (by decide) (by decide) rfl rfl
      · have c_13 : ¬ (2 ^ F1.length) ≤ t := fun h => c_13 ((nI_leI (by omega) (by omega)).mpr h)
        have ht3 : t < 2 ^ F1.length := by omega
        have ht64 : t < 64 := by omega
        have hpf := pop_facts F1.length (by omega) t ht3
        have hpf1 := hpf.1
        have hpf2 := hpf.2 ht1
        have hFl : F1.getD (pop t - 1) 0 < 100 := hF100 _ (getD_mem (by omega))
        refine j_aloadn F d_M_leastOf_16 0 rfl rfl ?_
        refine j_iloadn F d_M_leastOf_17 2 rfl rfl ?_
        refine j_goi (wc := []) (wr := [(m0, .inr (6, [.int th, .int now, .int (nI n), .int rf, .ref m1, .ref m2, .ref m3, .ref m4, .ref m5, .ref m6, .ref m7, .ref m8, .ref m9, .ref m10])), (m1, .inl (cA, 80, .inl (X 0))), (m2, .inl (cA, 80, .inl (X 1))), (m3, .inl (cA, 80, .inl (X 2))), (m4, .inl (cA, 80, .inl (X 3))), (m5, .inl (cA, 80, .inl (X 4))), (m6, .inl (cA, 20, .inl sl)), (m7, .inl (cA, 10, .inl tt)), (m8, .inl (cA, 10, .inl sm)), (m9, .inl (cA, 10, .inl hs)), (m10, .inl (cA, 64, .inl g))]) hA [] [0, 1, 2, 3, 4, 5, 6, 7, 8, 9, 10] rfl rfl (by decide) (by decide) (fun H locs ls hP hD hl => va_runS (As := [.int (nI t)]) (rest := [.ref m0]) F (ct_M_ones l D cA t (by omega) H.size) ⟨callB_of 1 F.2.2.2.2 (gd k_613) rfl rfl rfl (F.2.2.2.2 _ (wm k_7)) (F.2.2.2.2 _ (wm k_611)) (by decide +kernel) ⟨by decide, by decide⟩, F.2.2.2.2 _ (wm k_612)⟩ (pre_S hK hN hP hD [] rfl (by decide)) rfl rfl hl.1 rfl (lv_room (Nat.le_of_ble_eq_true rfl)) d_M_leastOf_18 ⟨by decide, by decide⟩) (fun r18 u18 hw18 => ?_)
        subst hw18
        refine j_ws (ws' := [(m0, .inr (6, [.int th, .int now, .int (nI n), .int rf, .ref m1, .ref m2, .ref m3, .ref m4, .ref m5, .ref m6, .ref m7, .ref m8, .ref m9, .ref m10])), (m1, .inl (cA, 80, .inl (X 0))), (m2, .inl (cA, 80, .inl (X 1))), (m3, .inl (cA, 80, .inl (X 2))), (m4, .inl (cA, 80, .inl (X 3))), (m5, .inl (cA, 80, .inl (X 4))), (m6, .inl (cA, 20, .inl sl)), (m7, .inl (cA, 10, .inl tt)), (m8, .inl (cA, 10, .inl sm)), (m9, .inl (cA, 10, .inl hs)), (m10, .inl (cA, 64, .inl g))]) [0, 1, 2, 3, 4, 5, 6, 7, 8, 9, 10] (by decide) rfl ?_
        refine j_iconst (v := nI 1) F d_M_leastOf_21 (by decide) ?_
        refine j_isub (v := nI ((pop t) - 1)) F d_M_leastOf_22 (pk_sub (by omega)) ?_
        refine j_goi (wc := [(m0, .inr (6, [.int th, .int now, .int (nI n), .int rf, .ref m1, .ref m2, .ref m3, .ref m4, .ref m5, .ref m6, .ref m7, .ref m8, .ref m9, .ref m10])), (m1, .inl (cA, 80, .inl (X 0))), (m2, .inl (cA, 80, .inl (X 1))), (m3, .inl (cA, 80, .inl (X 2))), (m4, .inl (cA, 80, .inl (X 3))), (m5, .inl (cA, 80, .inl (X 4))), (m6, .inl (cA, 20, .inl sl)), (m7, .inl (cA, 10, .inl tt)), (m8, .inl (cA, 10, .inl sm)), (m9, .inl (cA, 10, .inl hs)), (m10, .inl (cA, 64, .inl g))]) (wr := []) hA [0, 1, 2, 3, 4, 5, 6, 7, 8, 9, 10] [] rfl rfl (by decide) (by decide) (fun H locs ls hP hD hl => va_runV (As := [.int (nI ((pop t) - 1))]) (rest := []) F (ct_M_lying l D cA m0 m1 m2 m3 m4 m5 m6 m7 m8 m9 m10 th now n rf X sl tt sm hs g hA0  hsl ((pop t) - 1) (by rw [← hF1]; omega) H.size) ⟨callB_of 1 F.2.2.2.2 (gd k_617) rfl rfl rfl (F.2.2.2.2 _ (wm k_7)) (F.2.2.2.2 _ (wm k_614)) (by decide +kernel) ⟨by decide, by decide⟩, F.2.2.2.2 _ (wm k_616), F.2.2.2.2 _ (wm ks_37)⟩ (pre_V rfl hK hN hP hD [0, 1, 2, 3, 4, 5, 6, 7, 8, 9, 10] rfl (by decide) 0 rfl rfl) rfl rfl hl.1 rfl (lv_room (Nat.le_of_ble_eq_true rfl)) d_M_leastOf_23 ⟨by decide, by decide⟩) (fun r23 u23 hw23 => ?_)
        subst hw23
        refine j_ws (ws' := [(m0, .inr (6, [.int th, .int now, .int (nI n), .int rf, .ref m1, .ref m2, .ref m3, .ref m4, .ref m5, .ref m6, .ref m7, .ref m8, .ref m9, .ref m10])), (m1, .inl (cA, 80, .inl (X 0))), (m2, .inl (cA, 80, .inl (X 1))), (m3, .inl (cA, 80, .inl (X 2))), (m4, .inl (cA, 80, .inl (X 3))), (m5, .inl (cA, 80, .inl (X 4))), (m6, .inl (cA, 20, .inl sl)), (m7, .inl (cA, 10, .inl tt)), (m8, .inl (cA, 10, .inl sm)), (m9, .inl (cA, 10, .inl hs)), (m10, .inl (cA, 64, .inl g))]) [0, 1, 2, 3, 4, 5, 6, 7, 8, 9, 10] (by decide) rfl ?_
        rw [← hF1]
        refine j_istoren (lv' := [(3, .int (nI (F1.getD (pop t - 1) 0))), (0, .ref m0), (1, .int (nI F1.length)), (2, .int (nI t))]) F d_M_leastOf_26 rfl (by decide) rfl ?_
        refine j_aloadn F d_M_leastOf_27 1 rfl rfl ?_
        refine j_get (ci := 6) (v := .ref m10) F in_M hK 0 rfl rfl 13 (by decide) (wm k_479) rfl d_M_leastOf_28 ?_
        refine j_iloadn F d_M_leastOf_31 3 rfl rfl ?_
        refine j_ldc (v := 100000) F (wm k_618) d_M_leastOf_32 ?_
        refine j_top (y := nI 100000) (by decide) ?_
        refine j_iast (ws' := [(m0, .inr (6, [.int th, .int now, .int (nI n), .int rf, .ref m1, .ref m2, .ref m3, .ref m4, .ref m5, .ref m6, .ref m7, .ref m8, .ref m9, .ref m10])), (m1, .inl (cA, 80, .inl (X 0))), (m2, .inl (cA, 80, .inl (X 1))), (m3, .inl (cA, 80, .inl (X 2))), (m4, .inl (cA, 80, .inl (X 3))), (m5, .inl (cA, 80, .inl (X 4))), (m6, .inl (cA, 20, .inl sl)), (m7, .inl (cA, 10, .inl tt)), (m8, .inl (cA, 10, .inl sm)), (m9, .inl (cA, 10, .inl hs)), (m10, .inl (cA, 64, .inl (upd g t (nI 100000))))]) F hK 10 0 rfl rfl (by omega) (by decide) d_M_leastOf_34 rfl ?_
        refine j_iconst (v := nI 0) F d_M_leastOf_35 (by decide) ?_
        refine j_istore (lv' := [(4, .int (nI 0)), (3, .int (nI (F1.getD (pop t - 1) 0))), (0, .ref m0), (1, .int (nI F1.length)), (2, .int (nI t))]) F d_M_leastOf_36 (by decide) rfl ?_
        have loop38 : ∀ (fuel : Nat) (s0 : Nat) (hfuel38 : F1.length - s0 < fuel) (hs0 : s0 ≤ F1.length), J p l e rm_M_leastOf s m args below meth cd D vwCl A s.heap 6 0 0 Q [(m0, .inr (6, [.int th, .int now, .int (nI n), .int rf, .ref m1, .ref m2, .ref m3, .ref m4, .ref m5, .ref m6, .ref m7, .ref m8, .ref m9, .ref m10])), (m1, .inl (cA, 80, .inl (X 0))), (m2, .inl (cA, 80, .inl (X 1))), (m3, .inl (cA, 80, .inl (X 2))), (m4, .inl (cA, 80, .inl (X 3))), (m5, .inl (cA, 80, .inl (X 4))), (m6, .inl (cA, 20, .inl sl)), (m7, .inl (cA, 10, .inl tt)), (m8, .inl (cA, 10, .inl sm)), (m9, .inl (cA, 10, .inl hs)), (m10, .inl (cA, 64, .inl (upd g t (nI (rbT F1 (cst F1) t s0)))))] [(0, .ref m0), (1, .int (nI F1.length)), (2, .int (nI t)), (3, .int (nI (F1.getD (pop t - 1) 0))), (4, .int (nI s0))] 38 [] := by
          intro fuel
          induction fuel with
          | zero => intro s0 hfuel; exact absurd hfuel (Nat.not_lt_zero _)
          | succ fuel ih38 =>
            intro s0 hfuel38 hs0
            refine j_iload F d_M_leastOf_38 4 rfl ?_
            refine j_iloadn F d_M_leastOf_40 1 rfl rfl ?_
            refine j_ic_ge (tgt := 113) F d_M_leastOf_41 (by decide) (fun c_41 => ?_) (fun c_41 => ?_)
            · have c_41 : F1.length ≤ s0 := (nI_leI (by omega) (by omega)).mp c_41
              have hin : s0 = F1.length := by omega
              subst hin
              rw [rb_cst hF6 hF100 ht1 ht3]
              refine j_iinc (v := nI (t + 1)) (lv' := [(2, .int (nI (t + 1))), (0, .ref m0), (1, .int (nI F1.length)), (3, .int (nI (F1.getD (pop t - 1) 0))), (4, .int (nI F1.length))]) F d_M_leastOf_113 2 rfl (jn_inc t) (by decide) rfl ?_
              refine j_goto (tgt := 9) F d_M_leastOf_116 (by decide) ?_
              refine j_lv (lv' := [(0, .ref m0), (1, .int (nI F1.length)), (2, .int (nI (t + 1)))]) [1, 2, 0] rfl ?_
              exact ih9 (t + 1) (upd g t (nI (cst F1 t))) (by omega) (by omega) (by omega) (fun j hj => by
                by_cases e1 : j = t
                · rw [e1, upd_eq]
                · rw [upd_ne e1]; exact hC j (by omega))
            · have c_41 : ¬ F1.length ≤ s0 := fun h => c_41 ((nI_leI (by omega) (by omega)).mpr h)
              have hs6 : s0 < 6 := by omega
              have hbt := bit_tb t ht64 s0 hs6
              have hrb := rbT_le F1 (cst F1) t s0
              refine j_iloadn F d_M_leastOf_44 2 rfl rfl ?_
              refine j_iload F d_M_leastOf_45 4 rfl ?_
              refine j_ishr (v := nI t >>> (nI s0 &&& 31)) F d_M_leastOf_47 rfl ?_
              refine j_iconst (v := nI 1) F d_M_leastOf_48 (by decide) ?_
              refine j_iand (v := nI (t / 2 ^ s0 % 2)) F d_M_leastOf_49 (bit_sh1 t ht64 s0 hs6) ?_
              refine j_iconst (v := nI 1) F d_M_leastOf_50 (by decide) ?_
              refine j_ic_ne (tgt := 75) F d_M_leastOf_51 (by decide) (fun c_51 => ?_) (fun c_51 => ?_)
              · have c_51 : ¬ (t / 2 ^ s0 % 2) = 1 := fun h => c_51 ((nI_eq (by omega) (by omega)).mpr h)
                have hb0 := hbt.2 c_51
                refine j_ldc (v := 100000) F (wm k_618) d_M_leastOf_75 ?_
                refine j_top (y := nI 100000) (by decide) ?_
                refine j_istore (lv' := [(5, .int (nI 100000)), (0, .ref m0), (1, .int (nI F1.length)), (2, .int (nI t)), (3, .int (nI (F1.getD (pop t - 1) 0))), (4, .int (nI s0))]) F d_M_leastOf_77 (by decide) rfl ?_
                refine j_aloadn F d_M_leastOf_79 1 rfl rfl ?_
                refine j_get (ci := 6) (v := .ref m10) F in_M hK 0 rfl rfl 13 (by decide) (wm k_479) rfl d_M_leastOf_80 ?_
                refine j_iloadn F d_M_leastOf_83 3 rfl rfl ?_
                refine j_iload F d_M_leastOf_84 0 rfl ?_
                refine j_aloadn F d_M_leastOf_86 1 rfl rfl ?_
                refine j_get (ci := 6) (v := .ref m10) F in_M hK 0 rfl rfl 13 (by decide) (wm k_479) rfl d_M_leastOf_87 ?_
                refine j_iloadn F d_M_leastOf_90 3 rfl rfl ?_
                refine j_iald (v := nI (rbT F1 (cst F1) t s0)) F hK 10 0 rfl rfl (by omega) (by decide) d_M_leastOf_91 upd_eq ?_
                refine j_ic_ge (tgt := 100) F d_M_leastOf_92 (by decide) (fun c_92 => ?_) (fun c_92 => ?_)
                · have c_92 : (rbT F1 (cst F1) t s0) ≤ 100000 := (nI_leI (by omega) (by omega)).mp c_92
                  refine j_aloadn F d_M_leastOf_100 1 rfl rfl ?_
                  refine j_get (ci := 6) (v := .ref m10) F in_M hK 0 rfl rfl 13 (by decide) (wm k_479) rfl d_M_leastOf_101 ?_
                  refine j_iloadn F d_M_leastOf_104 3 rfl rfl ?_
                  refine j_iald (v := nI (rbT F1 (cst F1) t s0)) F hK 10 0 rfl rfl (by omega) (by decide) d_M_leastOf_105 upd_eq ?_
                  refine j_iast (ws' := [(m0, .inr (6, [.int th, .int now, .int (nI n), .int rf, .ref m1, .ref m2, .ref m3, .ref m4, .ref m5, .ref m6, .ref m7, .ref m8, .ref m9, .ref m10])), (m1, .inl (cA, 80, .inl (X 0))), (m2, .inl (cA, 80, .inl (X 1))), (m3, .inl (cA, 80, .inl (X 2))), (m4, .inl (cA, 80, .inl (X 3))), (m5, .inl (cA, 80, .inl (X 4))), (m6, .inl (cA, 20, .inl sl)), (m7, .inl (cA, 10, .inl tt)), (m8, .inl (cA, 10, .inl sm)), (m9, .inl (cA, 10, .inl hs)), (m10, .inl (cA, 64, .inl (upd (upd g t (nI (rbT F1 (cst F1) t s0))) t (nI (rbT F1 (cst F1) t s0)))))]) F hK 10 0 rfl rfl (by omega) (by decide) d_M_leastOf_106 rfl ?_
                  refine j_ext (ws' := [(m0, .inr (6, [.int th, .int now, .int (nI n), .int rf, .ref m1, .ref m2, .ref m3, .ref m4, .ref m5, .ref m6, .ref m7, .ref m8, .ref m9, .ref m10])), (m1, .inl (cA, 80, .inl (X 0))), (m2, .inl (cA, 80, .inl (X 1))), (m3, .inl (cA, 80, .inl (X 2))), (m4, .inl (cA, 80, .inl (X 3))), (m5, .inl (cA, 80, .inl (X 4))), (m6, .inl (cA, 20, .inl sl)), (m7, .inl (cA, 10, .inl tt)), (m8, .inl (cA, 10, .inl sm)), (m9, .inl (cA, 10, .inl hs)), (m10, .inl (cA, 64, .inl (upd g t (nI (rbT F1 (cst F1) t (s0 + 1))))))]) 10 (g := upd g t (nI (rbT F1 (cst F1) t (s0 + 1)))) rfl (fun i9 _ => congrFun (by rw [upd_upd, show rbT F1 (cst F1) t (s0 + 1) = rbT F1 (cst F1) t s0 by rw [rbT_f hb0]; omega]) i9) rfl ?_
                  refine j_iinc (v := nI (s0 + 1)) (lv' := [(4, .int (nI (s0 + 1))), (5, .int (nI 100000)), (0, .ref m0), (1, .int (nI F1.length)), (2, .int (nI t)), (3, .int (nI (F1.getD (pop t - 1) 0)))]) F d_M_leastOf_107 5 rfl (jn_inc s0) (by decide) rfl ?_
                  refine j_goto (tgt := 38) F d_M_leastOf_110 (by decide) ?_
                  refine j_lv (lv' := [(0, .ref m0), (1, .int (nI F1.length)), (2, .int (nI t)), (3, .int (nI (F1.getD (pop t - 1) 0))), (4, .int (nI (s0 + 1)))]) [2, 3, 4, 5, 0] rfl ?_
                  exact ih38 (s0 + 1) (by omega) (by omega)
                · have c_92 : ¬ (rbT F1 (cst F1) t s0) ≤ 100000 := fun h => c_92 ((nI_leI (by omega) (by omega)).mpr h)
                  refine j_iload F d_M_leastOf_95 0 rfl ?_
                  refine j_goto (tgt := 106) F d_M_leastOf_97 (by decide) ?_
                  refine j_iast (ws' := [(m0, .inr (6, [.int th, .int now, .int (nI n), .int rf, .ref m1, .ref m2, .ref m3, .ref m4, .ref m5, .ref m6, .ref m7, .ref m8, .ref m9, .ref m10])), (m1, .inl (cA, 80, .inl (X 0))), (m2, .inl (cA, 80, .inl (X 1))), (m3, .inl (cA, 80, .inl (X 2))), (m4, .inl (cA, 80, .inl (X 3))), (m5, .inl (cA, 80, .inl (X 4))), (m6, .inl (cA, 20, .inl sl)), (m7, .inl (cA, 10, .inl tt)), (m8, .inl (cA, 10, .inl sm)), (m9, .inl (cA, 10, .inl hs)), (m10, .inl (cA, 64, .inl (upd (upd g t (nI (rbT F1 (cst F1) t s0))) t (nI 100000))))]) F hK 10 0 rfl rfl (by omega) (by decide) d_M_leastOf_106 rfl ?_
                  refine j_ext (ws' := [(m0, .inr (6, [.int th, .int now, .int (nI n), .int rf, .ref m1, .ref m2, .ref m3, .ref m4, .ref m5, .ref m6, .ref m7, .ref m8, .ref m9, .ref m10])), (m1, .inl (cA, 80, .inl (X 0))), (m2, .inl (cA, 80, .inl (X 1))), (m3, .inl (cA, 80, .inl (X 2))), (m4, .inl (cA, 80, .inl (X 3))), (m5, .inl (cA, 80, .inl (X 4))), (m6, .inl (cA, 20, .inl sl)), (m7, .inl (cA, 10, .inl tt)), (m8, .inl (cA, 10, .inl sm)), (m9, .inl (cA, 10, .inl hs)), (m10, .inl (cA, 64, .inl (upd g t (nI (rbT F1 (cst F1) t (s0 + 1))))))]) 10 (g := upd g t (nI (rbT F1 (cst F1) t (s0 + 1)))) rfl (fun i9 _ => congrFun (by rw [upd_upd, show rbT F1 (cst F1) t (s0 + 1) = 100000 by rw [rbT_f hb0]; omega]) i9) rfl ?_
                  refine j_iinc (v := nI (s0 + 1)) (lv' := [(4, .int (nI (s0 + 1))), (5, .int (nI 100000)), (0, .ref m0), (1, .int (nI F1.length)), (2, .int (nI t)), (3, .int (nI (F1.getD (pop t - 1) 0)))]) F d_M_leastOf_107 5 rfl (jn_inc s0) (by decide) rfl ?_
                  refine j_goto (tgt := 38) F d_M_leastOf_110 (by decide) ?_
                  refine j_lv (lv' := [(0, .ref m0), (1, .int (nI F1.length)), (2, .int (nI t)), (3, .int (nI (F1.getD (pop t - 1) 0))), (4, .int (nI (s0 + 1)))]) [2, 3, 4, 5, 0] rfl ?_
                  exact ih38 (s0 + 1) (by omega) (by omega)
              · have c_51 : (t / 2 ^ s0 % 2) = 1 := (nI_eq (by omega) (by omega)).mp c_51
                have hb1 := hbt.1 c_51
                have hb2 := hb1.2
                have hbl := bit_less t ht64 s0 hs6 hb1.1
                have hcl := cst_le hF6 hF100 (t - 2 ^ s0) (by omega)
                have hd18 := dst_le (s := F1.getD (pop t - 1) 0) (t := s0) hFl (by omega)
                have hp1 : 1 ≤ 2 ^ s0 := Nat.one_le_two_pow
                refine j_aloadn F d_M_leastOf_54 0 rfl rfl ?_
                refine j_get (ci := 6) (v := .ref m10) F in_M hK 0 rfl rfl 13 (by decide) (wm k_479) rfl d_M_leastOf_55 ?_
                refine j_iloadn F d_M_leastOf_58 2 rfl rfl ?_
                refine j_iconst (v := nI 1) F d_M_leastOf_59 (by decide) ?_
                refine j_iload F d_M_leastOf_60 4 rfl ?_
                refine j_ishl (v := nI (2 ^ s0)) F d_M_leastOf_62 (bit_shl s0 (by omega)) ?_
                refine j_isub (v := nI (t - (2 ^ s0))) F d_M_leastOf_63 (pk_sub (by omega)) ?_
                refine j_iald (v := nI (cst F1 (t - 2 ^ s0))) F hK 10 0 rfl rfl (by omega) (by decide) d_M_leastOf_64 (by rw [upd_ne (by omega)]; exact hC _ (by omega)) ?_
                refine j_iloadn F d_M_leastOf_65 3 rfl rfl ?_
                refine j_iload F d_M_leastOf_66 4 rfl ?_
                refine j_goi (wc := []) (wr := [(m0, .inr (6, [.int th, .int now, .int (nI n), .int rf, .ref m1, .ref m2, .ref m3, .ref m4, .ref m5, .ref m6, .ref m7, .ref m8, .ref m9, .ref m10])), (m1, .inl (cA, 80, .inl (X 0))), (m2, .inl (cA, 80, .inl (X 1))), (m3, .inl (cA, 80, .inl (X 2))), (m4, .inl (cA, 80, .inl (X 3))), (m5, .inl (cA, 80, .inl (X 4))), (m6, .inl (cA, 20, .inl sl)), (m7, .inl (cA, 10, .inl tt)), (m8, .inl (cA, 10, .inl sm)), (m9, .inl (cA, 10, .inl hs)), (m10, .inl (cA, 64, .inl (upd g t (nI (rbT F1 (cst F1) t s0)))))]) hA [] [0, 1, 2, 3, 4, 5, 6, 7, 8, 9, 10] rfl rfl (by decide) (by decide) (fun H locs ls hP hD hl => va_runS (As := [.int (nI (F1.getD (pop t - 1) 0)), .int (nI s0)]) (rest := [.int (nI (cst F1 (t - 2 ^ s0)))]) F (ct_M_distance l D cA (F1.getD (pop t - 1) 0) s0 (by omega) (by omega) H.size) ⟨callB_of 2 F.2.2.2.2 (gd k_599) rfl rfl rfl (F.2.2.2.2 _ (wm k_7)) (F.2.2.2.2 _ (wm k_597)) (by decide +kernel) ⟨by decide, by decide⟩, F.2.2.2.2 _ (wm k_598)⟩ (pre_S hK hN hP hD [] rfl (by decide)) rfl rfl hl.1 rfl (lv_room (Nat.le_of_ble_eq_true rfl)) d_M_leastOf_68 ⟨by decide, by decide⟩) (fun r68 u68 hw68 => ?_)
                subst hw68
                refine j_ws (ws' := [(m0, .inr (6, [.int th, .int now, .int (nI n), .int rf, .ref m1, .ref m2, .ref m3, .ref m4, .ref m5, .ref m6, .ref m7, .ref m8, .ref m9, .ref m10])), (m1, .inl (cA, 80, .inl (X 0))), (m2, .inl (cA, 80, .inl (X 1))), (m3, .inl (cA, 80, .inl (X 2))), (m4, .inl (cA, 80, .inl (X 3))), (m5, .inl (cA, 80, .inl (X 4))), (m6, .inl (cA, 20, .inl sl)), (m7, .inl (cA, 10, .inl tt)), (m8, .inl (cA, 10, .inl sm)), (m9, .inl (cA, 10, .inl hs)), (m10, .inl (cA, 64, .inl (upd g t (nI (rbT F1 (cst F1) t s0)))))]) [0, 1, 2, 3, 4, 5, 6, 7, 8, 9, 10] (by decide) rfl ?_
                refine j_iadd (v := nI ((cst F1 (t - 2 ^ s0)) + (dst (F1.getD (pop t - 1) 0) s0))) F d_M_leastOf_71 (nI_add _ _) ?_
                refine j_goto (tgt := 77) F d_M_leastOf_72 (by decide) ?_
                refine j_istore (lv' := [(5, .int (nI ((cst F1 (t - 2 ^ s0)) + (dst (F1.getD (pop t - 1) 0) s0)))), (0, .ref m0), (1, .int (nI F1.length)), (2, .int (nI t)), (3, .int (nI (F1.getD (pop t - 1) 0))), (4, .int (nI s0))]) F d_M_leastOf_77 (by decide) rfl ?_
                refine j_aloadn F d_M_leastOf_79 1 rfl rfl ?_
                refine j_get (ci := 6) (v := .ref m10) F in_M hK 0 rfl rfl 13 (by decide) (wm k_479) rfl d_M_leastOf_80 ?_
                refine j_iloadn F d_M_leastOf_83 3 rfl rfl ?_
                refine j_iload F d_M_leastOf_84 0 rfl ?_
                refine j_aloadn F d_M_leastOf_86 1 rfl rfl ?_
                refine j_get (ci := 6) (v := .ref m10) F in_M hK 0 rfl rfl 13 (by decide) (wm k_479) rfl d_M_leastOf_87 ?_
                refine j_iloadn F d_M_leastOf_90 3 rfl rfl ?_
                refine j_iald (v := nI (rbT F1 (cst F1) t s0)) F hK 10 0 rfl rfl (by omega) (by decide) d_M_leastOf_91 upd_eq ?_
                refine j_ic_ge (tgt := 100) F d_M_leastOf_92 (by decide) (fun c_92 => ?_) (fun c_92 => ?_)
                · have c_92 : (rbT F1 (cst F1) t s0) ≤ ((cst F1 (t - 2 ^ s0)) + (dst (F1.getD (pop t - 1) 0) s0)) := (nI_leI (by omega) (by omega)).mp c_92
                  refine j_aloadn F d_M_leastOf_100 1 rfl rfl ?_
                  refine j_get (ci := 6) (v := .ref m10) F in_M hK 0 rfl rfl 13 (by decide) (wm k_479) rfl d_M_leastOf_101 ?_
                  refine j_iloadn F d_M_leastOf_104 3 rfl rfl ?_
                  refine j_iald (v := nI (rbT F1 (cst F1) t s0)) F hK 10 0 rfl rfl (by omega) (by decide) d_M_leastOf_105 upd_eq ?_
                  refine j_iast (ws' := [(m0, .inr (6, [.int th, .int now, .int (nI n), .int rf, .ref m1, .ref m2, .ref m3, .ref m4, .ref m5, .ref m6, .ref m7, .ref m8, .ref m9, .ref m10])), (m1, .inl (cA, 80, .inl (X 0))), (m2, .inl (cA, 80, .inl (X 1))), (m3, .inl (cA, 80, .inl (X 2))), (m4, .inl (cA, 80, .inl (X 3))), (m5, .inl (cA, 80, .inl (X 4))), (m6, .inl (cA, 20, .inl sl)), (m7, .inl (cA, 10, .inl tt)), (m8, .inl (cA, 10, .inl sm)), (m9, .inl (cA, 10, .inl hs)), (m10, .inl (cA, 64, .inl (upd (upd g t (nI (rbT F1 (cst F1) t s0))) t (nI (rbT F1 (cst F1) t s0)))))]) F hK 10 0 rfl rfl (by omega) (by decide) d_M_leastOf_106 rfl ?_
                  refine j_ext (ws' := [(m0, .inr (6, [.int th, .int now, .int (nI n), .int rf, .ref m1, .ref m2, .ref m3, .ref m4, .ref m5, .ref m6, .ref m7, .ref m8, .ref m9, .ref m10])), (m1, .inl (cA, 80, .inl (X 0))), (m2, .inl (cA, 80, .inl (X 1))), (m3, .inl (cA, 80, .inl (X 2))), (m4, .inl (cA, 80, .inl (X 3))), (m5, .inl (cA, 80, .inl (X 4))), (m6, .inl (cA, 20, .inl sl)), (m7, .inl (cA, 10, .inl tt)), (m8, .inl (cA, 10, .inl sm)), (m9, .inl (cA, 10, .inl hs)), (m10, .inl (cA, 64, .inl (upd g t (nI (rbT F1 (cst F1) t (s0 + 1))))))]) 10 (g := upd g t (nI (rbT F1 (cst F1) t (s0 + 1)))) rfl (fun i9 _ => congrFun (by rw [upd_upd, show rbT F1 (cst F1) t (s0 + 1) = rbT F1 (cst F1) t s0 by rw [rbT_t hb1.1, hbl.2]; omega]) i9) rfl ?_
                  refine j_iinc (v := nI (s0 + 1)) (lv' := [(4, .int (nI (s0 + 1))), (5, .int (nI ((cst F1 (t - 2 ^ s0)) + (dst (F1.getD (pop t - 1) 0) s0)))), (0, .ref m0), (1, .int (nI F1.length)), (2, .int (nI t)), (3, .int (nI (F1.getD (pop t - 1) 0)))]) F d_M_leastOf_107 5 rfl (jn_inc s0) (by decide) rfl ?_
                  refine j_goto (tgt := 38) F d_M_leastOf_110 (by decide) ?_
                  refine j_lv (lv' := [(0, .ref m0), (1, .int (nI F1.length)), (2, .int (nI t)), (3, .int (nI (F1.getD (pop t - 1) 0))), (4, .int (nI (s0 + 1)))]) [2, 3, 4, 5, 0] rfl ?_
                  exact ih38 (s0 + 1) (by omega) (by omega)
                · have c_92 : ¬ (rbT F1 (cst F1) t s0) ≤ ((cst F1 (t - 2 ^ s0)) + (dst (F1.getD (pop t - 1) 0) s0)) := fun h => c_92 ((nI_leI (by omega) (by omega)).mpr h)
                  refine j_iload F d_M_leastOf_95 0 rfl ?_
                  refine j_goto (tgt := 106) F d_M_leastOf_97 (by decide) ?_
                  refine j_iast (ws' := [(m0, .inr (6, [.int th, .int now, .int (nI n), .int rf, .ref m1, .ref m2, .ref m3, .ref m4, .ref m5, .ref m6, .ref m7, .ref m8, .ref m9, .ref m10])), (m1, .inl (cA, 80, .inl (X 0))), (m2, .inl (cA, 80, .inl (X 1))), (m3, .inl (cA, 80, .inl (X 2))), (m4, .inl (cA, 80, .inl (X 3))), (m5, .inl (cA, 80, .inl (X 4))), (m6, .inl (cA, 20, .inl sl)), (m7, .inl (cA, 10, .inl tt)), (m8, .inl (cA, 10, .inl sm)), (m9, .inl (cA, 10, .inl hs)), (m10, .inl (cA, 64, .inl (upd (upd g t (nI (rbT F1 (cst F1) t s0))) t (nI ((cst F1 (t - 2 ^ s0)) + (dst (F1.getD (pop t - 1) 0) s0))))))]) F hK 10 0 rfl rfl (by omega) (by decide) d_M_leastOf_106 rfl ?_
                  refine j_ext (ws' := [(m0, .inr (6, [.int th, .int now, .int (nI n), .int rf, .ref m1, .ref m2, .ref m3, .ref m4, .ref m5, .ref m6, .ref m7, .ref m8, .ref m9, .ref m10])), (m1, .inl (cA, 80, .inl (X 0))), (m2, .inl (cA, 80, .inl (X 1))), (m3, .inl (cA, 80, .inl (X 2))), (m4, .inl (cA, 80, .inl (X 3))), (m5, .inl (cA, 80, .inl (X 4))), (m6, .inl (cA, 20, .inl sl)), (m7, .inl (cA, 10, .inl tt)), (m8, .inl (cA, 10, .inl sm)), (m9, .inl (cA, 10, .inl hs)), (m10, .inl (cA, 64, .inl (upd g t (nI (rbT F1 (cst F1) t (s0 + 1))))))]) 10 (g := upd g t (nI (rbT F1 (cst F1) t (s0 + 1)))) rfl (fun i9 _ => congrFun (by rw [upd_upd, show rbT F1 (cst F1) t (s0 + 1) = cst F1 (t - 2 ^ s0) + dst (F1.getD (pop t - 1) 0) s0 by rw [rbT_t hb1.1, hbl.2]; omega]) i9) rfl ?_
                  refine j_iinc (v := nI (s0 + 1)) (lv' := [(4, .int (nI (s0 + 1))), (5, .int (nI ((cst F1 (t - 2 ^ s0)) + (dst (F1.getD (pop t - 1) 0) s0)))), (0, .ref m0), (1, .int (nI F1.length)), (2, .int (nI t)), (3, .int (nI (F1.getD (pop t - 1) 0)))]) F d_M_leastOf_107 5 rfl (jn_inc s0) (by decide) rfl ?_
                  refine j_goto (tgt := 38) F d_M_leastOf_110 (by decide) ?_
                  refine j_lv (lv' := [(0, .ref m0), (1, .int (nI F1.length)), (2, .int (nI t)), (3, .int (nI (F1.getD (pop t - 1) 0))), (4, .int (nI (s0 + 1)))]) [2, 3, 4, 5, 0] rfl ?_
                  exact ih38 (s0 + 1) (by omega) (by omega)
        refine j_lv (lv' := [(0, .ref m0), (1, .int (nI F1.length)), (2, .int (nI t)), (3, .int (nI (F1.getD (pop t - 1) 0))), (4, .int (nI 0))]) [2, 3, 4, 1, 0] rfl ?_
        exact loop38 (F1.length + 1) 0 (by omega) (by omega)
  refine j_lv (lv' := [(0, .ref m0), (1, .int (nI F1.length)), (2, .int (nI 1))]) [1, 2, 0] rfl ?_
  exact loop9 (2 ^ F1.length + 1) 1 (upd lt 0 (nI 0)) (by omega) (by omega) (by omega) (fun j hj => by
    have hj0 : j = 0 := by omega
    subst hj0; rw [upd_eq]; rfl)

def rm_M_least : Room := { frames := 4, cells := 0, slots := 0, locals := 96 }
set_option maxHeartbeats 4000000 in
set_option maxRecDepth 100000 in
theorem ct_M_least_ok (l : Launch) (D : va_G) (cA : ClassId) (m0 m1 m2 m3 m4 m5 m6 m7 m8 m9 m10 : Nat) (th now : Int32) (n : Nat) (rf : Int32) (X : AF) (sl tt sm hs lt : Nat → Int32) (hA0 : aok X n) (t k : Int32) (ht : win t (nI 0) (nI 10000) = true) (hk : win k (nI 0) (nI 10000) = true) : Ci (S := (Nat → Int32)) l y_M_least (Cond.code y_M_least c_M_least 5 (some .int) :: WD) rm_M_least D vwCl [(cA, .int)] nws [.ref m0, .int t, .int k] [(m0, .inr (6, [.int th, .int now, .int (nI n), .int rf, .ref m1, .ref m2, .ref m3, .ref m4, .ref m5, .ref m6, .ref m7, .ref m8, .ref m9, .ref m10])), (m1, .inl (cA, 80, .inl (X 0))), (m2, .inl (cA, 80, .inl (X 1))), (m3, .inl (cA, 80, .inl (X 2))), (m4, .inl (cA, 80, .inl (X 3))), (m5, .inl (cA, 80, .inl (X 4))), (m6, .inl (cA, 20, .inl sl)), (m7, .inl (cA, 10, .inl tt)), (m8, .inl (cA, 10, .inl sm)), (m9, .inl (cA, 10, .inl hs)), (m10, .inl (cA, 64, .inl lt))] 0 0 (fun r _ => r = lstP (slP X n t k)) (fun u => [(m0, .inr (6, [.int (nI 0), .int now, .int (nI n), .int rf, .ref m1, .ref m2, .ref m3, .ref m4, .ref m5, .ref m6, .ref m7, .ref m8, .ref m9, .ref m10])), (m1, .inl (cA, 80, .inl (X 0))), (m2, .inl (cA, 80, .inl (X 1))), (m3, .inl (cA, 80, .inl (X 2))), (m4, .inl (cA, 80, .inl (X 3))), (m5, .inl (cA, 80, .inl (X 4))), (m6, .inl (cA, 20, .inl (slP X n t k))), (m7, .inl (cA, 10, .inl (ttP X n t k))), (m8, .inl (cA, 10, .inl (smP X n t k))), (m9, .inl (cA, 10, .inl hs)), (m10, .inl (cA, 64, .inl u))]) := by
  refine Ci.of (cc := c_M_least) (nL := 5) (lv := [(0, .ref m0), (1, .int t), (2, .int k)]) (by decide) rfl (Nat.le_of_ble_eq_true rfl) rfl ?_
  intro p e s m args below meth cd A Q F hK hN hA ret
  have h80 := hA0.1
  refine j_aloadn F d_M_least_0 0 rfl rfl ?_
  refine j_iconst (v := nI 1) F d_M_least_1 (by decide) ?_
  refine j_iloadn F d_M_least_2 1 rfl rfl ?_
  refine j_iloadn F d_M_least_3 2 rfl rfl ?_
  refine j_goi (wc := [(m0, .inr (6, [.int th, .int now, .int (nI n), .int rf, .ref m1, .ref m2, .ref m3, .ref m4, .ref m5, .ref m6, .ref m7, .ref m8, .ref m9, .ref m10])), (m1, .inl (cA, 80, .inl (X 0))), (m2, .inl (cA, 80, .inl (X 1))), (m3, .inl (cA, 80, .inl (X 2))), (m4, .inl (cA, 80, .inl (X 3))), (m5, .inl (cA, 80, .inl (X 4))), (m6, .inl (cA, 20, .inl sl)), (m7, .inl (cA, 10, .inl tt)), (m8, .inl (cA, 10, .inl sm)), (m9, .inl (cA, 10, .inl hs)), (m10, .inl (cA, 64, .inl lt))]) (wr := []) hA [0, 1, 2, 3, 4, 5, 6, 7, 8, 9, 10] [] rfl rfl (by decide) (by decide) (fun H locs ls hP hD hl => va_runV (As := [.int (nI 1), .int t, .int k]) (rest := []) F (ct_M_isAsked_ok l D cA m0 m1 m2 m3 m4 m5 m6 m7 m8 m9 m10 th now n rf X sl tt sm hs lt hA0 true t k (by rw [ht, hk]; rfl) H.size) ⟨callB_of 3 F.2.2.2.2 (gd k_540) rfl rfl rfl (F.2.2.2.2 _ (wm k_7)) (F.2.2.2.2 _ (wm k_537)) (by decide +kernel) ⟨by decide, by decide⟩, F.2.2.2.2 _ (wm k_539), F.2.2.2.2 _ (wm ks_26)⟩ (pre_V rfl hK hN hP hD [0, 1, 2, 3, 4, 5, 6, 7, 8, 9, 10] rfl (by decide) 0 rfl rfl) rfl rfl hl.1 rfl (lv_room (Nat.le_of_ble_eq_true rfl)) d_M_least_4 ⟨by decide, by decide⟩) (fun r4 u4 hw4 => ?_)
  subst hw4
  refine j_ws (ws' := [(m0, .inr (6, [.int (nI 0), .int now, .int (nI n), .int rf, .ref m1, .ref m2, .ref m3, .ref m4, .ref m5, .ref m6, .ref m7, .ref m8, .ref m9, .ref m10])), (m1, .inl (cA, 80, .inl (X 0))), (m2, .inl (cA, 80, .inl (X 1))), (m3, .inl (cA, 80, .inl (X 2))), (m4, .inl (cA, 80, .inl (X 3))), (m5, .inl (cA, 80, .inl (X 4))), (m6, .inl (cA, 20, .inl sl)), (m7, .inl (cA, 10, .inl tt)), (m8, .inl (cA, 10, .inl sm)), (m9, .inl (cA, 10, .inl hs)), (m10, .inl (cA, 64, .inl lt))]) [0, 1, 2, 3, 4, 5, 6, 7, 8, 9, 10] (by decide) rfl ?_
  refine j_if_ne (tgt := 12) F d_M_least_7 (by decide) (fun c_7 => ?_) (fun c_7 => ?_)
  · refine j_aloadn F d_M_least_12 0 rfl rfl ?_
    refine j_iloadn F d_M_least_13 1 rfl rfl ?_
    refine j_iloadn F d_M_least_14 2 rfl rfl ?_
    refine j_gov (wc := [(m0, .inr (6, [.int (nI 0), .int now, .int (nI n), .int rf, .ref m1, .ref m2, .ref m3, .ref m4, .ref m5, .ref m6, .ref m7, .ref m8, .ref m9, .ref m10])), (m1, .inl (cA, 80, .inl (X 0))), (m2, .inl (cA, 80, .inl (X 1))), (m3, .inl (cA, 80, .inl (X 2))), (m4, .inl (cA, 80, .inl (X 3))), (m5, .inl (cA, 80, .inl (X 4))), (m6, .inl (cA, 20, .inl sl)), (m7, .inl (cA, 10, .inl tt)), (m8, .inl (cA, 10, .inl sm)), (m9, .inl (cA, 10, .inl hs)), (m10, .inl (cA, 64, .inl lt))]) (wr := []) hA [0, 1, 2, 3, 4, 5, 6, 7, 8, 9, 10] [] rfl rfl (by decide) (by decide) (fun H locs ls hP hD hl => va_runV (As := [.int t, .int k]) (rest := []) F (ct_M_finds l D cA m0 m1 m2 m3 m4 m5 m6 m7 m8 m9 m10 (nI 0) now n rf X sl tt sm hs lt hA0 t k  H.size) ⟨callB_of 2 F.2.2.2.2 (gd k_544) rfl rfl rfl (F.2.2.2.2 _ (wm k_7)) (F.2.2.2.2 _ (wm k_541)) (by decide +kernel) ⟨by decide, by decide⟩, F.2.2.2.2 _ (wm k_543), F.2.2.2.2 _ (wm ks_27)⟩ (pre_V rfl hK hN hP hD [0, 1, 2, 3, 4, 5, 6, 7, 8, 9, 10] rfl (by decide) 0 rfl rfl) rfl rfl hl.1 rfl (lv_room (Nat.le_of_ble_eq_true rfl)) d_M_least_15 ⟨by decide, by decide⟩) (fun u15 hw15 => ?_)
    refine j_ws (ws' := [(m0, .inr (6, [.int (nI 0), .int now, .int (nI n), .int rf, .ref m1, .ref m2, .ref m3, .ref m4, .ref m5, .ref m6, .ref m7, .ref m8, .ref m9, .ref m10])), (m1, .inl (cA, 80, .inl (X 0))), (m2, .inl (cA, 80, .inl (X 1))), (m3, .inl (cA, 80, .inl (X 2))), (m4, .inl (cA, 80, .inl (X 3))), (m5, .inl (cA, 80, .inl (X 4))), (m6, .inl (cA, 20, .inl (slP X n t k))), (m7, .inl (cA, 10, .inl (ttP X n t k))), (m8, .inl (cA, 10, .inl (smP X n t k))), (m9, .inl (cA, 10, .inl hs)), (m10, .inl (cA, 64, .inl lt))]) [0, 1, 2, 3, 4, 5, 6, 7, 8, 9, 10] (by decide) rfl ?_
    refine j_iconst (v := nI 0) F d_M_least_18 (by decide) ?_
    refine j_istoren (lv' := [(3, .int (nI 0)), (0, .ref m0), (1, .int t), (2, .int k)]) F d_M_least_19 rfl (by decide) rfl ?_
    refine j_iconst (v := nI 0) F d_M_least_20 (by decide) ?_
    refine j_istore (lv' := [(4, .int (nI 0)), (3, .int (nI 0)), (0, .ref m0), (1, .int t), (2, .int k)]) F d_M_least_21 (by decide) rfl ?_
    have loop23 : ∀ (fuel : Nat) (b : Nat) (hfuel23 : 20 - b < fuel) (hb : b ≤ 20), J p l e rm_M_least s m args below meth cd D vwCl A s.heap 5 0 0 Q [(m0, .inr (6, [.int (nI 0), .int now, .int (nI n), .int rf, .ref m1, .ref m2, .ref m3, .ref m4, .ref m5, .ref m6, .ref m7, .ref m8, .ref m9, .ref m10])), (m1, .inl (cA, 80, .inl (X 0))), (m2, .inl (cA, 80, .inl (X 1))), (m3, .inl (cA, 80, .inl (X 2))), (m4, .inl (cA, 80, .inl (X 3))), (m5, .inl (cA, 80, .inl (X 4))), (m6, .inl (cA, 20, .inl (slP X n t k))), (m7, .inl (cA, 10, .inl (ttP X n t k))), (m8, .inl (cA, 10, .inl (smP X n t k))), (m9, .inl (cA, 10, .inl hs)), (m10, .inl (cA, 64, .inl lt))] [(0, .ref m0), (1, .int t), (2, .int k), (3, .int (nI ((lyT (slP X n t k) b).length))), (4, .int (nI b))] 23 [] := by
      intro fuel
      induction fuel with
      | zero => intro b hfuel; exact absurd hfuel (Nat.not_lt_zero _)
      | succ fuel ih23 =>
        intro b hfuel23 hb
        refine j_iload F d_M_least_23 4 rfl ?_
        refine j_bipush (v := nI 20) F d_M_least_25 (by decide) ?_
        refine j_ic_ge (tgt := 54) F d_M_least_27 (by decide) (fun c_27 => ?_) (fun c_27 => ?_)
        · have c_27 : 20 ≤ b := (nI_leI (by omega) (by omega)).mp c_27
          have hin : b = 20 := by omega
          subst hin
          obtain ⟨F1, hF1⟩ : ∃ F1, F1 = lyT (slP X n t k) 20 := ⟨_, rfl⟩
          rw [← hF1]
          have hl20 : F1.length ≤ 20 := by rw [hF1]; exact lyT_len _ _
          refine j_iloadn F d_M_least_54 3 rfl rfl ?_
          refine j_bipush (v := nI 6) F d_M_least_55 (by decide) ?_
          refine j_ic_le (tgt := 64) F d_M_least_57 (by decide) (fun c_57 => ?_) (fun c_57 => ?_)
          · have c_57 : F1.length ≤ 6 := (nI_leI (by omega) (by omega)).mp c_57
            refine j_aloadn F d_M_least_64 0 rfl rfl ?_
            refine j_iloadn F d_M_least_65 3 rfl rfl ?_
            refine j_goi (wc := [(m0, .inr (6, [.int (nI 0), .int now, .int (nI n), .int rf, .ref m1, .ref m2, .ref m3, .ref m4, .ref m5, .ref m6, .ref m7, .ref m8, .ref m9, .ref m10])), (m1, .inl (cA, 80, .inl (X 0))), (m2, .inl (cA, 80, .inl (X 1))), (m3, .inl (cA, 80, .inl (X 2))), (m4, .inl (cA, 80, .inl (X 3))), (m5, .inl (cA, 80, .inl (X 4))), (m6, .inl (cA, 20, .inl (slP X n t k))), (m7, .inl (cA, 10, .inl (ttP X n t k))), (m8, .inl (cA, 10, .inl (smP X n t k))), (m9, .inl (cA, 10, .inl hs)), (m10, .inl (cA, 64, .inl lt))]) (wr := []) hA [0, 1, 2, 3, 4, 5, 6, 7, 8, 9, 10] [] rfl rfl (by decide) (by decide) (fun H locs ls hP hD hl => va_runV (As := [.int (nI F1.length)]) (rest := []) F (ct_M_leastOf l D cA m0 m1 m2 m3 m4 m5 m6 m7 m8 m9 m10 (nI 0) now n rf X (slP X n t k) (ttP X n t k) (smP X n t k) hs lt hA0  (slP_ok hA0 t k) F1 hF1 (by omega) H.size) ⟨callB_of 1 F.2.2.2.2 (gd k_610) rfl rfl rfl (F.2.2.2.2 _ (wm k_7)) (F.2.2.2.2 _ (wm k_607)) (by decide +kernel) ⟨by decide, by decide⟩, F.2.2.2.2 _ (wm k_609), F.2.2.2.2 _ (wm ks_36)⟩ (pre_V rfl hK hN hP hD [0, 1, 2, 3, 4, 5, 6, 7, 8, 9, 10] rfl (by decide) 0 rfl rfl) rfl rfl hl.1 rfl (lv_room (Nat.le_of_ble_eq_true rfl)) d_M_least_66 ⟨by decide, by decide⟩) (fun r66 u66 hw66 => ?_)
            subst hw66
            refine j_ws (ws' := [(m0, .inr (6, [.int (nI 0), .int now, .int (nI n), .int rf, .ref m1, .ref m2, .ref m3, .ref m4, .ref m5, .ref m6, .ref m7, .ref m8, .ref m9, .ref m10])), (m1, .inl (cA, 80, .inl (X 0))), (m2, .inl (cA, 80, .inl (X 1))), (m3, .inl (cA, 80, .inl (X 2))), (m4, .inl (cA, 80, .inl (X 3))), (m5, .inl (cA, 80, .inl (X 4))), (m6, .inl (cA, 20, .inl (slP X n t k))), (m7, .inl (cA, 10, .inl (ttP X n t k))), (m8, .inl (cA, 10, .inl (smP X n t k))), (m9, .inl (cA, 10, .inl hs)), (m10, .inl (cA, 64, .inl u66))]) [0, 1, 2, 3, 4, 5, 6, 7, 8, 9, 10] (by decide) rfl ?_
            exact ret _ _ _ _ _ _ u66 d_M_least_69 rfl (by decide) (by decide) rfl (by unfold lstP; rw [← hF1, if_pos (by omega)])
          · have c_57 : ¬ F1.length ≤ 6 := fun h => c_57 ((nI_leI (by omega) (by omega)).mpr h)
            refine j_iconst (v := (-1)) F d_M_least_60 (by decide) ?_
            refine j_goto (tgt := 69) F d_M_least_61 (by decide) ?_
            exact ret _ _ _ _ _ _ lt d_M_least_69 rfl (by decide) (by decide) rfl (by unfold lstP; rw [← hF1, if_neg (by omega)])
        · have c_27 : ¬ 20 ≤ b := fun h => c_27 ((nI_leI (by omega) (by omega)).mpr h)
          refine j_iloadn F d_M_least_30 3 rfl rfl ?_
          refine j_aloadn F d_M_least_31 0 rfl rfl ?_
          refine j_get (ci := 6) (v := .ref m6) F in_M hK 0 rfl rfl 9 (by decide) (wm k_475) rfl d_M_least_32 ?_
          refine j_iload F d_M_least_35 4 rfl ?_
          refine j_iald (v := (slP X n t k) b) F hK 6 0 rfl rfl (by omega) (by decide) d_M_least_37 rfl ?_
          refine j_if_lt (tgt := 45) F d_M_least_38 (by decide) (fun c_38 => ?_) (fun c_38 => ?_)
          · refine j_iconst (v := nI 0) F d_M_least_45 (by decide) ?_
            refine j_iadd (v := nI ((lyT (slP X n t k) (b + 1)).length)) F d_M_least_46 (by rw [nI_add, lyT_f ((sl_neg (slP_ok hA0 t k) (by omega)).1 c_38), Nat.add_zero]) ?_
            refine j_istoren (lv' := [(3, .int (nI ((lyT (slP X n t k) (b + 1)).length))), (0, .ref m0), (1, .int t), (2, .int k), (4, .int (nI b))]) F d_M_least_47 rfl (by decide) rfl ?_
            refine j_iinc (v := nI (b + 1)) (lv' := [(4, .int (nI (b + 1))), (3, .int (nI ((lyT (slP X n t k) (b + 1)).length))), (0, .ref m0), (1, .int t), (2, .int k)]) F d_M_least_48 4 rfl (jn_inc b) (by decide) rfl ?_
            refine j_goto (tgt := 23) F d_M_least_51 (by decide) ?_
            refine j_lv (lv' := [(0, .ref m0), (1, .int t), (2, .int k), (3, .int (nI ((lyT (slP X n t k) (b + 1)).length))), (4, .int (nI (b + 1)))]) [2, 3, 4, 1, 0] rfl ?_
            exact ih23 (b + 1) (by omega) (by omega)
          · refine j_iconst (v := nI 1) F d_M_least_41 (by decide) ?_
            refine j_goto (tgt := 46) F d_M_least_42 (by decide) ?_
            refine j_iadd (v := nI ((lyT (slP X n t k) (b + 1)).length)) F d_M_least_46 (by rw [nI_add, show (lyT (slP X n t k) (b + 1)).length = (lyT (slP X n t k) b).length + 1 by rw [lyT_t ((sl_neg (slP_ok hA0 t k) (by omega)).2 c_38), List.length_append]; rfl]) ?_
            refine j_istoren (lv' := [(3, .int (nI ((lyT (slP X n t k) (b + 1)).length))), (0, .ref m0), (1, .int t), (2, .int k), (4, .int (nI b))]) F d_M_least_47 rfl (by decide) rfl ?_
            refine j_iinc (v := nI (b + 1)) (lv' := [(4, .int (nI (b + 1))), (3, .int (nI ((lyT (slP X n t k) (b + 1)).length))), (0, .ref m0), (1, .int t), (2, .int k)]) F d_M_least_48 4 rfl (jn_inc b) (by decide) rfl ?_
            refine j_goto (tgt := 23) F d_M_least_51 (by decide) ?_
            refine j_lv (lv' := [(0, .ref m0), (1, .int t), (2, .int k), (3, .int (nI ((lyT (slP X n t k) (b + 1)).length))), (4, .int (nI (b + 1)))]) [2, 3, 4, 1, 0] rfl ?_
            exact ih23 (b + 1) (by omega) (by omega)
    refine j_lv (lv' := [(0, .ref m0), (1, .int t), (2, .int k), (3, .int (nI 0)), (4, .int (nI 0))]) [2, 3, 4, 1, 0] rfl ?_
    exact loop23 (20 + 1) 0 (by omega) (by omega)
  · exact absurd c_7 (by decide)

set_option maxHeartbeats 4000000 in
set_option maxRecDepth 100000 in
theorem ct_M_least_no (l : Launch) (D : va_G) (cA : ClassId) (m0 m1 m2 m3 m4 m5 m6 m7 m8 m9 m10 : Nat) (th now : Int32) (n : Nat) (rf : Int32) (X : AF) (sl tt sm hs lt : Nat → Int32) (hA0 : aok X n) (t k : Int32) (hbad : (win t (nI 0) (nI 10000) && win k (nI 0) (nI 10000)) = false) : Ci (S := Unit) l y_M_least (Cond.code y_M_least c_M_least 5 (some .int) :: WD) rm_M_least D vwCl [(cA, .int)] nws [.ref m0, .int t, .int k] [(m0, .inr (6, [.int th, .int now, .int (nI n), .int rf, .ref m1, .ref m2, .ref m3, .ref m4, .ref m5, .ref m6, .ref m7, .ref m8, .ref m9, .ref m10])), (m1, .inl (cA, 80, .inl (X 0))), (m2, .inl (cA, 80, .inl (X 1))), (m3, .inl (cA, 80, .inl (X 2))), (m4, .inl (cA, 80, .inl (X 3))), (m5, .inl (cA, 80, .inl (X 4))), (m6, .inl (cA, 20, .inl sl)), (m7, .inl (cA, 10, .inl tt)), (m8, .inl (cA, 10, .inl sm)), (m9, .inl (cA, 10, .inl hs)), (m10, .inl (cA, 64, .inl lt))] 0 0 (fun r _ => r = nI 0) (fun _ => [(m0, .inr (6, [.int (nI 1), .int now, .int (nI n), .int rf, .ref m1, .ref m2, .ref m3, .ref m4, .ref m5, .ref m6, .ref m7, .ref m8, .ref m9, .ref m10])), (m1, .inl (cA, 80, .inl (X 0))), (m2, .inl (cA, 80, .inl (X 1))), (m3, .inl (cA, 80, .inl (X 2))), (m4, .inl (cA, 80, .inl (X 3))), (m5, .inl (cA, 80, .inl (X 4))), (m6, .inl (cA, 20, .inl sl)), (m7, .inl (cA, 10, .inl tt)), (m8, .inl (cA, 10, .inl sm)), (m9, .inl (cA, 10, .inl hs)), (m10, .inl (cA, 64, .inl lt))]) := by
  refine Ci.of (cc := c_M_least) (nL := 5) (lv := [(0, .ref m0), (1, .int t), (2, .int k)]) (by decide) rfl (Nat.le_of_ble_eq_true rfl) rfl ?_
  intro p e s m args below meth cd A Q F hK hN hA ret
  refine j_aloadn F d_M_least_0 0 rfl rfl ?_
  refine j_iconst (v := nI 1) F d_M_least_1 (by decide) ?_
  refine j_iloadn F d_M_least_2 1 rfl rfl ?_
  refine j_iloadn F d_M_least_3 2 rfl rfl ?_
  refine j_goi (wc := [(m0, .inr (6, [.int th, .int now, .int (nI n), .int rf, .ref m1, .ref m2, .ref m3, .ref m4, .ref m5, .ref m6, .ref m7, .ref m8, .ref m9, .ref m10])), (m1, .inl (cA, 80, .inl (X 0))), (m2, .inl (cA, 80, .inl (X 1))), (m3, .inl (cA, 80, .inl (X 2))), (m4, .inl (cA, 80, .inl (X 3))), (m5, .inl (cA, 80, .inl (X 4))), (m6, .inl (cA, 20, .inl sl)), (m7, .inl (cA, 10, .inl tt)), (m8, .inl (cA, 10, .inl sm)), (m9, .inl (cA, 10, .inl hs)), (m10, .inl (cA, 64, .inl lt))]) (wr := []) hA [0, 1, 2, 3, 4, 5, 6, 7, 8, 9, 10] [] rfl rfl (by decide) (by decide) (fun H locs ls hP hD hl => va_runV (As := [.int (nI 1), .int t, .int k]) (rest := []) F (ct_M_isAsked_no l D cA m0 m1 m2 m3 m4 m5 m6 m7 m8 m9 m10 th now n rf X sl tt sm hs lt hA0 true t k hbad H.size) ⟨callB_of 3 F.2.2.2.2 (gd k_540) rfl rfl rfl (F.2.2.2.2 _ (wm k_7)) (F.2.2.2.2 _ (wm k_537)) (by decide +kernel) ⟨by decide, by decide⟩, F.2.2.2.2 _ (wm k_539), F.2.2.2.2 _ (wm ks_26)⟩ (pre_V rfl hK hN hP hD [0, 1, 2, 3, 4, 5, 6, 7, 8, 9, 10] rfl (by decide) 0 rfl rfl) rfl rfl hl.1 rfl (lv_room (Nat.le_of_ble_eq_true rfl)) d_M_least_4 ⟨by decide, by decide⟩) (fun r4 u4 hw4 => ?_)
  subst hw4
  refine j_ws (ws' := [(m0, .inr (6, [.int (nI 1), .int now, .int (nI n), .int rf, .ref m1, .ref m2, .ref m3, .ref m4, .ref m5, .ref m6, .ref m7, .ref m8, .ref m9, .ref m10])), (m1, .inl (cA, 80, .inl (X 0))), (m2, .inl (cA, 80, .inl (X 1))), (m3, .inl (cA, 80, .inl (X 2))), (m4, .inl (cA, 80, .inl (X 3))), (m5, .inl (cA, 80, .inl (X 4))), (m6, .inl (cA, 20, .inl sl)), (m7, .inl (cA, 10, .inl tt)), (m8, .inl (cA, 10, .inl sm)), (m9, .inl (cA, 10, .inl hs)), (m10, .inl (cA, 64, .inl lt))]) [0, 1, 2, 3, 4, 5, 6, 7, 8, 9, 10] (by decide) rfl ?_
  refine j_if_ne (tgt := 12) F d_M_least_7 (by decide) (fun c_7 => ?_) (fun c_7 => ?_)
  · exact absurd rfl c_7
  · refine j_iconst (v := nI 0) F d_M_least_10 (by decide) ?_
    exact ret _ _ _ _ _ _ () d_M_least_11 rfl (by decide) (by decide) rfl rfl

def rm_M_look : Room := { frames := 1, cells := 0, slots := 0, locals := 24 }
set_option maxHeartbeats 4000000 in
set_option maxRecDepth 100000 in
theorem ct_M_look_ok (l : Launch) (D : va_G) (cA : ClassId) (m0 m1 m2 m3 m4 m5 m6 m7 m8 m9 m10 : Nat) (th now : Int32) (n : Nat) (rf : Int32) (X : AF) (sl tt sm hs lt : Nat → Int32) (hA0 : aok X n) (e0 : Nat) (he0 : e0 < n) (w : Int32) (hw : win w (nI 0) (nI 5) = true) : Ci (S := Unit) l y_M_look (Cond.code y_M_look c_M_look 3 (some .int) :: WD) rm_M_look D vwCl [(cA, .int)] nws [.ref m0, .int (nI e0), .int w] [(m0, .inr (6, [.int th, .int now, .int (nI n), .int rf, .ref m1, .ref m2, .ref m3, .ref m4, .ref m5, .ref m6, .ref m7, .ref m8, .ref m9, .ref m10])), (m1, .inl (cA, 80, .inl (X 0))), (m2, .inl (cA, 80, .inl (X 1))), (m3, .inl (cA, 80, .inl (X 2))), (m4, .inl (cA, 80, .inl (X 3))), (m5, .inl (cA, 80, .inl (X 4))), (m6, .inl (cA, 20, .inl sl)), (m7, .inl (cA, 10, .inl tt)), (m8, .inl (cA, 10, .inl sm)), (m9, .inl (cA, 10, .inl hs)), (m10, .inl (cA, 64, .inl lt))] 0 0 (fun r _ => r = lkP X n now e0 w) (fun _ => [(m0, .inr (6, [.int (nI 0), .int now, .int (nI n), .int rf, .ref m1, .ref m2, .ref m3, .ref m4, .ref m5, .ref m6, .ref m7, .ref m8, .ref m9, .ref m10])), (m1, .inl (cA, 80, .inl (X 0))), (m2, .inl (cA, 80, .inl (X 1))), (m3, .inl (cA, 80, .inl (X 2))), (m4, .inl (cA, 80, .inl (X 3))), (m5, .inl (cA, 80, .inl (X 4))), (m6, .inl (cA, 20, .inl sl)), (m7, .inl (cA, 10, .inl tt)), (m8, .inl (cA, 10, .inl sm)), (m9, .inl (cA, 10, .inl hs)), (m10, .inl (cA, 64, .inl lt))]) := by
  refine Ci.of (cc := c_M_look) (nL := 3) (lv := [(0, .ref m0), (1, .int (nI e0)), (2, .int w)]) (by decide) rfl (Nat.le_of_ble_eq_true rfl) rfl ?_
  intro p e s m args below meth cd A Q F hK hN hA ret
  have h80 := hA0.1
  refine j_iloadn F d_M_look_0 1 rfl rfl ?_
  refine j_if_lt (tgt := 21) F d_M_look_1 (by decide) (fun c_1 => ?_) (fun c_1 => ?_)
  · have c_1 : e0 < 0 := (nI_ltI (by omega) (by omega)).mp c_1
    exact absurd c_1 (by omega)
  · have c_1 : ¬ e0 < 0 := fun h => c_1 ((nI_ltI (by omega) (by omega)).mpr h)
    refine j_iloadn F d_M_look_4 1 rfl rfl ?_
    refine j_aloadn F d_M_look_5 0 rfl rfl ?_
    refine j_get (ci := 6) (v := .int (nI n)) F in_M hK 0 rfl rfl 2 (by decide) (wm k_468) rfl d_M_look_6 ?_
    refine j_ic_ge (tgt := 21) F d_M_look_9 (by decide) (fun c_9 => ?_) (fun c_9 => ?_)
    · have c_9 : n ≤ e0 := (nI_leI (by omega) (by omega)).mp c_9
      exact absurd c_9 (by omega)
    · have c_9 : ¬ n ≤ e0 := fun h => c_9 ((nI_leI (by omega) (by omega)).mpr h)
      refine j_iloadn F d_M_look_12 2 rfl rfl ?_
      refine j_iconst (v := nI 0) F d_M_look_13 (by decide) ?_
      refine j_iconst (v := nI 5) F d_M_look_14 (by decide) ?_
      refine j_goi (wc := []) (wr := [(m0, .inr (6, [.int th, .int now, .int (nI n), .int rf, .ref m1, .ref m2, .ref m3, .ref m4, .ref m5, .ref m6, .ref m7, .ref m8, .ref m9, .ref m10])), (m1, .inl (cA, 80, .inl (X 0))), (m2, .inl (cA, 80, .inl (X 1))), (m3, .inl (cA, 80, .inl (X 2))), (m4, .inl (cA, 80, .inl (X 3))), (m5, .inl (cA, 80, .inl (X 4))), (m6, .inl (cA, 20, .inl sl)), (m7, .inl (cA, 10, .inl tt)), (m8, .inl (cA, 10, .inl sm)), (m9, .inl (cA, 10, .inl hs)), (m10, .inl (cA, 64, .inl lt))]) hA [] [0, 1, 2, 3, 4, 5, 6, 7, 8, 9, 10] rfl rfl (by decide) (by decide) (fun H locs ls hP hD hl => va_runS (As := [.int w, .int (nI 0), .int (nI 5)]) (rest := []) F (ct_M_in l D cA w (nI 0) (nI 5) H.size) ⟨callB_of 3 F.2.2.2.2 (gd k_523) rfl rfl rfl (F.2.2.2.2 _ (wm k_7)) (F.2.2.2.2 _ (wm k_521)) (by decide +kernel) ⟨by decide, by decide⟩, F.2.2.2.2 _ (wm k_522)⟩ (pre_S hK hN hP hD [] rfl (by decide)) rfl rfl hl.1 rfl (lv_room (Nat.le_of_ble_eq_true rfl)) d_M_look_15 ⟨by decide, by decide⟩) (fun r15 u15 hw15 => ?_)
      subst hw15
      refine j_ws (ws' := [(m0, .inr (6, [.int th, .int now, .int (nI n), .int rf, .ref m1, .ref m2, .ref m3, .ref m4, .ref m5, .ref m6, .ref m7, .ref m8, .ref m9, .ref m10])), (m1, .inl (cA, 80, .inl (X 0))), (m2, .inl (cA, 80, .inl (X 1))), (m3, .inl (cA, 80, .inl (X 2))), (m4, .inl (cA, 80, .inl (X 3))), (m5, .inl (cA, 80, .inl (X 4))), (m6, .inl (cA, 20, .inl sl)), (m7, .inl (cA, 10, .inl tt)), (m8, .inl (cA, 10, .inl sm)), (m9, .inl (cA, 10, .inl hs)), (m10, .inl (cA, 64, .inl lt))]) [0, 1, 2, 3, 4, 5, 6, 7, 8, 9, 10] (by decide) rfl ?_
      refine j_if_ne (tgt := 27) F d_M_look_18 (by decide) (fun c_18 => ?_) (fun c_18 => ?_)
      · refine j_aloadn F d_M_look_27 0 rfl rfl ?_
        refine j_iconst (v := nI 0) F d_M_look_28 (by decide) ?_
        refine j_put (ci := 6) (v := .int (nI 0)) (ty := .int) (ws' := [(m0, .inr (6, [.int (nI 0), .int now, .int (nI n), .int rf, .ref m1, .ref m2, .ref m3, .ref m4, .ref m5, .ref m6, .ref m7, .ref m8, .ref m9, .ref m10])), (m1, .inl (cA, 80, .inl (X 0))), (m2, .inl (cA, 80, .inl (X 1))), (m3, .inl (cA, 80, .inl (X 2))), (m4, .inl (cA, 80, .inl (X 3))), (m5, .inl (cA, 80, .inl (X 4))), (m6, .inl (cA, 20, .inl sl)), (m7, .inl (cA, 10, .inl tt)), (m8, .inl (cA, 10, .inl sm)), (m9, .inl (cA, 10, .inl hs)), (m10, .inl (cA, 64, .inl lt))]) F in_M ty_M tk_M nm_M hK 0 rfl rfl 0 (by decide) (wm k_466) rfl (by decide +kernel) rfl rfl (Nat.le_of_ble_eq_true rfl) d_M_look_29 rfl ?_
        refine j_iloadn F d_M_look_32 2 rfl rfl ?_
        have sw := jn_sw4 w
        rcases sw with hz | hz | hz | hz | hz | hz
        · refine j_tabIn (tgt := 68) F d_M_look_33 0 hz.1 (by decide) (by decide) rfl (by decide) ?_
          refine j_aloadn F d_M_look_68 0 rfl rfl ?_
          refine j_get (ci := 6) (v := .ref m1) F in_M hK 0 rfl rfl 4 (by decide) (wm k_470) rfl d_M_look_69 ?_
          refine j_iloadn F d_M_look_72 1 rfl rfl ?_
          refine j_iald (v := (X 0) e0) F hK 1 0 rfl rfl (by omega) (by decide) d_M_look_73 rfl ?_
          exact ret _ _ _ _ _ _ () d_M_look_74 rfl (by decide) (by decide) rfl (by unfold lkP; rw [if_pos hz.2])
        · refine j_tabIn (tgt := 75) F d_M_look_33 1 hz.1 (by decide) (by decide) rfl (by decide) ?_
          refine j_aloadn F d_M_look_75 0 rfl rfl ?_
          refine j_get (ci := 6) (v := .ref m2) F in_M hK 0 rfl rfl 5 (by decide) (wm k_471) rfl d_M_look_76 ?_
          refine j_iloadn F d_M_look_79 1 rfl rfl ?_
          refine j_iald (v := (X 1) e0) F hK 2 0 rfl rfl (by omega) (by decide) d_M_look_80 rfl ?_
          exact ret _ _ _ _ _ _ () d_M_look_81 rfl (by decide) (by decide) rfl (by unfold lkP; rw [if_neg (kne hz.2 (by decide) (by decide) (by decide)), if_pos hz.2])
        · refine j_tabIn (tgt := 82) F d_M_look_33 2 hz.1 (by decide) (by decide) rfl (by decide) ?_
          refine j_aloadn F d_M_look_82 0 rfl rfl ?_
          refine j_get (ci := 6) (v := .ref m3) F in_M hK 0 rfl rfl 6 (by decide) (wm k_472) rfl d_M_look_83 ?_
          refine j_iloadn F d_M_look_86 1 rfl rfl ?_
          refine j_iald (v := (X 2) e0) F hK 3 0 rfl rfl (by omega) (by decide) d_M_look_87 rfl ?_
          exact ret _ _ _ _ _ _ () d_M_look_88 rfl (by decide) (by decide) rfl (by unfold lkP; rw [if_neg (kne hz.2 (by decide) (by decide) (by decide)), if_neg (kne hz.2 (by decide) (by decide) (by decide)), if_pos hz.2])
        · refine j_tabIn (tgt := 89) F d_M_look_33 3 hz.1 (by decide) (by decide) rfl (by decide) ?_
          refine j_aloadn F d_M_look_89 0 rfl rfl ?_
          refine j_get (ci := 6) (v := .ref m4) F in_M hK 0 rfl rfl 7 (by decide) (wm k_473) rfl d_M_look_90 ?_
          refine j_iloadn F d_M_look_93 1 rfl rfl ?_
          refine j_iald (v := (X 3) e0) F hK 4 0 rfl rfl (by omega) (by decide) d_M_look_94 rfl ?_
          exact ret _ _ _ _ _ _ () d_M_look_95 rfl (by decide) (by decide) rfl (by unfold lkP; rw [if_neg (kne hz.2 (by decide) (by decide) (by decide)), if_neg (kne hz.2 (by decide) (by decide) (by decide)), if_neg (kne hz.2 (by decide) (by decide) (by decide)), if_pos hz.2])
        · refine j_tabIn (tgt := 96) F d_M_look_33 4 hz.1 (by decide) (by decide) rfl (by decide) ?_
          refine j_aloadn F d_M_look_96 0 rfl rfl ?_
          refine j_get (ci := 6) (v := .ref m5) F in_M hK 0 rfl rfl 8 (by decide) (wm k_474) rfl d_M_look_97 ?_
          refine j_iloadn F d_M_look_100 1 rfl rfl ?_
          refine j_iald (v := (X 4) e0) F hK 5 0 rfl rfl (by omega) (by decide) d_M_look_101 rfl ?_
          exact ret _ _ _ _ _ _ () d_M_look_102 rfl (by decide) (by decide) rfl (by unfold lkP; rw [if_neg (kne hz.2 (by decide) (by decide) (by decide)), if_neg (kne hz.2 (by decide) (by decide) (by decide)), if_neg (kne hz.2 (by decide) (by decide) (by decide)), if_neg (kne hz.2 (by decide) (by decide) (by decide)), if_pos hz.2])
        · refine j_tabOut (tgt := 103) F d_M_look_33 hz.1 (by decide) ?_
          refine j_aloadn F d_M_look_103 0 rfl rfl ?_
          refine j_iloadn F d_M_look_104 1 rfl rfl ?_
          refine j_aloadn F d_M_look_105 0 rfl rfl ?_
          refine j_get (ci := 6) (v := .int now) F in_M hK 0 rfl rfl 1 (by decide) (wm k_467) rfl d_M_look_106 ?_
          refine j_goi (wc := [(m0, .inr (6, [.int (nI 0), .int now, .int (nI n), .int rf, .ref m1, .ref m2, .ref m3, .ref m4, .ref m5, .ref m6, .ref m7, .ref m8, .ref m9, .ref m10])), (m1, .inl (cA, 80, .inl (X 0))), (m2, .inl (cA, 80, .inl (X 1))), (m3, .inl (cA, 80, .inl (X 2))), (m4, .inl (cA, 80, .inl (X 3))), (m5, .inl (cA, 80, .inl (X 4))), (m6, .inl (cA, 20, .inl sl)), (m7, .inl (cA, 10, .inl tt)), (m8, .inl (cA, 10, .inl sm)), (m9, .inl (cA, 10, .inl hs)), (m10, .inl (cA, 64, .inl lt))]) (wr := []) hA [0, 1, 2, 3, 4, 5, 6, 7, 8, 9, 10] [] rfl rfl (by decide) (by decide) (fun H locs ls hP hD hl => va_runV (As := [.int (nI e0), .int now]) (rest := []) F (ct_M_isVoid l D cA m0 m1 m2 m3 m4 m5 m6 m7 m8 m9 m10 (nI 0) now n rf X sl tt sm hs lt hA0 e0 (by omega) now  H.size) ⟨callB_of 2 F.2.2.2.2 (gd k_556) rfl rfl rfl (F.2.2.2.2 _ (wm k_7)) (F.2.2.2.2 _ (wm k_553)) (by decide +kernel) ⟨by decide, by decide⟩, F.2.2.2.2 _ (wm k_555), F.2.2.2.2 _ (wm ks_30)⟩ (pre_V rfl hK hN hP hD [0, 1, 2, 3, 4, 5, 6, 7, 8, 9, 10] rfl (by decide) 0 rfl rfl) rfl rfl hl.1 rfl (lv_room (Nat.le_of_ble_eq_true rfl)) d_M_look_109 ⟨by decide, by decide⟩) (fun r109 u109 hw109 => ?_)
          subst hw109
          refine j_ws (ws' := [(m0, .inr (6, [.int (nI 0), .int now, .int (nI n), .int rf, .ref m1, .ref m2, .ref m3, .ref m4, .ref m5, .ref m6, .ref m7, .ref m8, .ref m9, .ref m10])), (m1, .inl (cA, 80, .inl (X 0))), (m2, .inl (cA, 80, .inl (X 1))), (m3, .inl (cA, 80, .inl (X 2))), (m4, .inl (cA, 80, .inl (X 3))), (m5, .inl (cA, 80, .inl (X 4))), (m6, .inl (cA, 20, .inl sl)), (m7, .inl (cA, 10, .inl tt)), (m8, .inl (cA, 10, .inl sm)), (m9, .inl (cA, 10, .inl hs)), (m10, .inl (cA, 64, .inl lt))]) [0, 1, 2, 3, 4, 5, 6, 7, 8, 9, 10] (by decide) rfl ?_
          refine j_if_eq (tgt := 119) F d_M_look_112 (by decide) (fun c_112 => ?_) (fun c_112 => ?_)
          · refine j_iconst (v := nI 0) F d_M_look_119 (by decide) ?_
            exact ret _ _ _ _ _ _ () d_M_look_120 rfl (by decide) (by decide) rfl (by unfold lkP; rw [if_neg (hz.2 0 (by decide)), if_neg (hz.2 1 (by decide)), if_neg (hz.2 2 (by decide)), if_neg (hz.2 3 (by decide)), if_neg (hz.2 4 (by decide))]; exact bI_f (bI_0 c_112))
          · refine j_iconst (v := nI 1) F d_M_look_115 (by decide) ?_
            refine j_goto (tgt := 120) F d_M_look_116 (by decide) ?_
            exact ret _ _ _ _ _ _ () d_M_look_120 rfl (by decide) (by decide) rfl (by unfold lkP; rw [if_neg (hz.2 0 (by decide)), if_neg (hz.2 1 (by decide)), if_neg (hz.2 2 (by decide)), if_neg (hz.2 3 (by decide)), if_neg (hz.2 4 (by decide))]; exact bI_t (bI_1 c_112))
      · exact absurd (bI_0 c_18) (by rw [hw]; decide)

set_option maxHeartbeats 4000000 in
set_option maxRecDepth 100000 in
theorem ct_M_look_no (l : Launch) (D : va_G) (cA : ClassId) (m0 m1 m2 m3 m4 m5 m6 m7 m8 m9 m10 : Nat) (th now : Int32) (n : Nat) (rf : Int32) (X : AF) (sl tt sm hs lt : Nat → Int32) (hA0 : aok X n) (a w : Int32) (hbad : (hasB n a && win w (nI 0) (nI 5)) = false) : Ci (S := Unit) l y_M_look (Cond.code y_M_look c_M_look 3 (some .int) :: WD) rm_M_look D vwCl [(cA, .int)] nws [.ref m0, .int a, .int w] [(m0, .inr (6, [.int th, .int now, .int (nI n), .int rf, .ref m1, .ref m2, .ref m3, .ref m4, .ref m5, .ref m6, .ref m7, .ref m8, .ref m9, .ref m10])), (m1, .inl (cA, 80, .inl (X 0))), (m2, .inl (cA, 80, .inl (X 1))), (m3, .inl (cA, 80, .inl (X 2))), (m4, .inl (cA, 80, .inl (X 3))), (m5, .inl (cA, 80, .inl (X 4))), (m6, .inl (cA, 20, .inl sl)), (m7, .inl (cA, 10, .inl tt)), (m8, .inl (cA, 10, .inl sm)), (m9, .inl (cA, 10, .inl hs)), (m10, .inl (cA, 64, .inl lt))] 0 0 (fun r _ => r = nI 0) (fun _ => [(m0, .inr (6, [.int (nI 1), .int now, .int (nI n), .int rf, .ref m1, .ref m2, .ref m3, .ref m4, .ref m5, .ref m6, .ref m7, .ref m8, .ref m9, .ref m10])), (m1, .inl (cA, 80, .inl (X 0))), (m2, .inl (cA, 80, .inl (X 1))), (m3, .inl (cA, 80, .inl (X 2))), (m4, .inl (cA, 80, .inl (X 3))), (m5, .inl (cA, 80, .inl (X 4))), (m6, .inl (cA, 20, .inl sl)), (m7, .inl (cA, 10, .inl tt)), (m8, .inl (cA, 10, .inl sm)), (m9, .inl (cA, 10, .inl hs)), (m10, .inl (cA, 64, .inl lt))]) := by
  refine Ci.of (cc := c_M_look) (nL := 3) (lv := [(0, .ref m0), (1, .int a), (2, .int w)]) (by decide) rfl (Nat.le_of_ble_eq_true rfl) rfl ?_
  intro p e s m args below meth cd A Q F hK hN hA ret
  have h80 := hA0.1
  refine j_iloadn F d_M_look_0 1 rfl rfl ?_
  refine j_if_lt (tgt := 21) F d_M_look_1 (by decide) (fun c_1 => ?_) (fun c_1 => ?_)
  · refine j_aloadn F d_M_look_21 0 rfl rfl ?_
    refine j_iconst (v := nI 1) F d_M_look_22 (by decide) ?_
    refine j_goi (wc := [(m0, .inr (6, [.int th, .int now, .int (nI n), .int rf, .ref m1, .ref m2, .ref m3, .ref m4, .ref m5, .ref m6, .ref m7, .ref m8, .ref m9, .ref m10])), (m1, .inl (cA, 80, .inl (X 0))), (m2, .inl (cA, 80, .inl (X 1))), (m3, .inl (cA, 80, .inl (X 2))), (m4, .inl (cA, 80, .inl (X 3))), (m5, .inl (cA, 80, .inl (X 4))), (m6, .inl (cA, 20, .inl sl)), (m7, .inl (cA, 10, .inl tt)), (m8, .inl (cA, 10, .inl sm)), (m9, .inl (cA, 10, .inl hs)), (m10, .inl (cA, 64, .inl lt))]) (wr := []) hA [0, 1, 2, 3, 4, 5, 6, 7, 8, 9, 10] [] rfl rfl (by decide) (by decide) (fun H locs ls hP hD hl => va_runV (As := [.int (nI 1)]) (rest := []) F (ct_M_refuse l D cA m0 m1 m2 m3 m4 m5 m6 m7 m8 m9 m10 th now n rf X sl tt sm hs lt hA0 (nI 1)  H.size) ⟨callB_of 1 F.2.2.2.2 (gd k_626) rfl rfl rfl (F.2.2.2.2 _ (wm k_7)) (F.2.2.2.2 _ (wm k_623)) (by decide +kernel) ⟨by decide, by decide⟩, F.2.2.2.2 _ (wm k_625), F.2.2.2.2 _ (wm ks_38)⟩ (pre_V rfl hK hN hP hD [0, 1, 2, 3, 4, 5, 6, 7, 8, 9, 10] rfl (by decide) 0 rfl rfl) rfl rfl hl.1 rfl (lv_room (Nat.le_of_ble_eq_true rfl)) d_M_look_23 ⟨by decide, by decide⟩) (fun r23 u23 hw23 => ?_)
    subst hw23
    refine j_ws (ws' := [(m0, .inr (6, [.int (nI 1), .int now, .int (nI n), .int rf, .ref m1, .ref m2, .ref m3, .ref m4, .ref m5, .ref m6, .ref m7, .ref m8, .ref m9, .ref m10])), (m1, .inl (cA, 80, .inl (X 0))), (m2, .inl (cA, 80, .inl (X 1))), (m3, .inl (cA, 80, .inl (X 2))), (m4, .inl (cA, 80, .inl (X 3))), (m5, .inl (cA, 80, .inl (X 4))), (m6, .inl (cA, 20, .inl sl)), (m7, .inl (cA, 10, .inl tt)), (m8, .inl (cA, 10, .inl sm)), (m9, .inl (cA, 10, .inl hs)), (m10, .inl (cA, 64, .inl lt))]) [0, 1, 2, 3, 4, 5, 6, 7, 8, 9, 10] (by decide) rfl ?_
    exact ret _ _ _ _ _ _ () d_M_look_26 rfl (by decide) (by decide) rfl rfl
  · refine j_iloadn F d_M_look_4 1 rfl rfl ?_
    refine j_aloadn F d_M_look_5 0 rfl rfl ?_
    refine j_get (ci := 6) (v := .int (nI n)) F in_M hK 0 rfl rfl 2 (by decide) (wm k_468) rfl d_M_look_6 ?_
    refine j_ic_ge (tgt := 21) F d_M_look_9 (by decide) (fun c_9 => ?_) (fun c_9 => ?_)
    · refine j_aloadn F d_M_look_21 0 rfl rfl ?_
      refine j_iconst (v := nI 1) F d_M_look_22 (by decide) ?_
      refine j_goi (wc := [(m0, .inr (6, [.int th, .int now, .int (nI n), .int rf, .ref m1, .ref m2, .ref m3, .ref m4, .ref m5, .ref m6, .ref m7, .ref m8, .ref m9, .ref m10])), (m1, .inl (cA, 80, .inl (X 0))), (m2, .inl (cA, 80, .inl (X 1))), (m3, .inl (cA, 80, .inl (X 2))), (m4, .inl (cA, 80, .inl (X 3))), (m5, .inl (cA, 80, .inl (X 4))), (m6, .inl (cA, 20, .inl sl)), (m7, .inl (cA, 10, .inl tt)), (m8, .inl (cA, 10, .inl sm)), (m9, .inl (cA, 10, .inl hs)), (m10, .inl (cA, 64, .inl lt))]) (wr := []) hA [0, 1, 2, 3, 4, 5, 6, 7, 8, 9, 10] [] rfl rfl (by decide) (by decide) (fun H locs ls hP hD hl => va_runV (As := [.int (nI 1)]) (rest := []) F (ct_M_refuse l D cA m0 m1 m2 m3 m4 m5 m6 m7 m8 m9 m10 th now n rf X sl tt sm hs lt hA0 (nI 1)  H.size) ⟨callB_of 1 F.2.2.2.2 (gd k_626) rfl rfl rfl (F.2.2.2.2 _ (wm k_7)) (F.2.2.2.2 _ (wm k_623)) (by decide +kernel) ⟨by decide, by decide⟩, F.2.2.2.2 _ (wm k_625), F.2.2.2.2 _ (wm ks_38)⟩ (pre_V rfl hK hN hP hD [0, 1, 2, 3, 4, 5, 6, 7, 8, 9, 10] rfl (by decide) 0 rfl rfl) rfl rfl hl.1 rfl (lv_room (Nat.le_of_ble_eq_true rfl)) d_M_look_23 ⟨by decide, by decide⟩) (fun r23 u23 hw23 => ?_)
      subst hw23
      refine j_ws (ws' := [(m0, .inr (6, [.int (nI 1), .int now, .int (nI n), .int rf, .ref m1, .ref m2, .ref m3, .ref m4, .ref m5, .ref m6, .ref m7, .ref m8, .ref m9, .ref m10])), (m1, .inl (cA, 80, .inl (X 0))), (m2, .inl (cA, 80, .inl (X 1))), (m3, .inl (cA, 80, .inl (X 2))), (m4, .inl (cA, 80, .inl (X 3))), (m5, .inl (cA, 80, .inl (X 4))), (m6, .inl (cA, 20, .inl sl)), (m7, .inl (cA, 10, .inl tt)), (m8, .inl (cA, 10, .inl sm)), (m9, .inl (cA, 10, .inl hs)), (m10, .inl (cA, 64, .inl lt))]) [0, 1, 2, 3, 4, 5, 6, 7, 8, 9, 10] (by decide) rfl ?_
      exact ret _ _ _ _ _ _ () d_M_look_26 rfl (by decide) (by decide) rfl rfl
    · refine j_iloadn F d_M_look_12 2 rfl rfl ?_
      refine j_iconst (v := nI 0) F d_M_look_13 (by decide) ?_
      refine j_iconst (v := nI 5) F d_M_look_14 (by decide) ?_
      refine j_goi (wc := []) (wr := [(m0, .inr (6, [.int th, .int now, .int (nI n), .int rf, .ref m1, .ref m2, .ref m3, .ref m4, .ref m5, .ref m6, .ref m7, .ref m8, .ref m9, .ref m10])), (m1, .inl (cA, 80, .inl (X 0))), (m2, .inl (cA, 80, .inl (X 1))), (m3, .inl (cA, 80, .inl (X 2))), (m4, .inl (cA, 80, .inl (X 3))), (m5, .inl (cA, 80, .inl (X 4))), (m6, .inl (cA, 20, .inl sl)), (m7, .inl (cA, 10, .inl tt)), (m8, .inl (cA, 10, .inl sm)), (m9, .inl (cA, 10, .inl hs)), (m10, .inl (cA, 64, .inl lt))]) hA [] [0, 1, 2, 3, 4, 5, 6, 7, 8, 9, 10] rfl rfl (by decide) (by decide) (fun H locs ls hP hD hl => va_runS (As := [.int w, .int (nI 0), .int (nI 5)]) (rest := []) F (ct_M_in l D cA w (nI 0) (nI 5) H.size) ⟨callB_of 3 F.2.2.2.2 (gd k_523) rfl rfl rfl (F.2.2.2.2 _ (wm k_7)) (F.2.2.2.2 _ (wm k_521)) (by decide +kernel) ⟨by decide, by decide⟩, F.2.2.2.2 _ (wm k_522)⟩ (pre_S hK hN hP hD [] rfl (by decide)) rfl rfl hl.1 rfl (lv_room (Nat.le_of_ble_eq_true rfl)) d_M_look_15 ⟨by decide, by decide⟩) (fun r15 u15 hw15 => ?_)
      subst hw15
      refine j_ws (ws' := [(m0, .inr (6, [.int th, .int now, .int (nI n), .int rf, .ref m1, .ref m2, .ref m3, .ref m4, .ref m5, .ref m6, .ref m7, .ref m8, .ref m9, .ref m10])), (m1, .inl (cA, 80, .inl (X 0))), (m2, .inl (cA, 80, .inl (X 1))), (m3, .inl (cA, 80, .inl (X 2))), (m4, .inl (cA, 80, .inl (X 3))), (m5, .inl (cA, 80, .inl (X 4))), (m6, .inl (cA, 20, .inl sl)), (m7, .inl (cA, 10, .inl tt)), (m8, .inl (cA, 10, .inl sm)), (m9, .inl (cA, 10, .inl hs)), (m10, .inl (cA, 64, .inl lt))]) [0, 1, 2, 3, 4, 5, 6, 7, 8, 9, 10] (by decide) rfl ?_
      refine j_if_ne (tgt := 27) F d_M_look_18 (by decide) (fun c_18 => ?_) (fun c_18 => ?_)
      · exact absurd hbad (by unfold hasB; rw [decide_eq_true (jn_nlt c_1), decide_eq_true (jn_nle c_9), bI_1 c_18]; decide)
      · refine j_aloadn F d_M_look_21 0 rfl rfl ?_
        refine j_iconst (v := nI 1) F d_M_look_22 (by decide) ?_
        refine j_goi (wc := [(m0, .inr (6, [.int th, .int now, .int (nI n), .int rf, .ref m1, .ref m2, .ref m3, .ref m4, .ref m5, .ref m6, .ref m7, .ref m8, .ref m9, .ref m10])), (m1, .inl (cA, 80, .inl (X 0))), (m2, .inl (cA, 80, .inl (X 1))), (m3, .inl (cA, 80, .inl (X 2))), (m4, .inl (cA, 80, .inl (X 3))), (m5, .inl (cA, 80, .inl (X 4))), (m6, .inl (cA, 20, .inl sl)), (m7, .inl (cA, 10, .inl tt)), (m8, .inl (cA, 10, .inl sm)), (m9, .inl (cA, 10, .inl hs)), (m10, .inl (cA, 64, .inl lt))]) (wr := []) hA [0, 1, 2, 3, 4, 5, 6, 7, 8, 9, 10] [] rfl rfl (by decide) (by decide) (fun H locs ls hP hD hl => va_runV (As := [.int (nI 1)]) (rest := []) F (ct_M_refuse l D cA m0 m1 m2 m3 m4 m5 m6 m7 m8 m9 m10 th now n rf X sl tt sm hs lt hA0 (nI 1)  H.size) ⟨callB_of 1 F.2.2.2.2 (gd k_626) rfl rfl rfl (F.2.2.2.2 _ (wm k_7)) (F.2.2.2.2 _ (wm k_623)) (by decide +kernel) ⟨by decide, by decide⟩, F.2.2.2.2 _ (wm k_625), F.2.2.2.2 _ (wm ks_38)⟩ (pre_V rfl hK hN hP hD [0, 1, 2, 3, 4, 5, 6, 7, 8, 9, 10] rfl (by decide) 0 rfl rfl) rfl rfl hl.1 rfl (lv_room (Nat.le_of_ble_eq_true rfl)) d_M_look_23 ⟨by decide, by decide⟩) (fun r23 u23 hw23 => ?_)
        subst hw23
        refine j_ws (ws' := [(m0, .inr (6, [.int (nI 1), .int now, .int (nI n), .int rf, .ref m1, .ref m2, .ref m3, .ref m4, .ref m5, .ref m6, .ref m7, .ref m8, .ref m9, .ref m10])), (m1, .inl (cA, 80, .inl (X 0))), (m2, .inl (cA, 80, .inl (X 1))), (m3, .inl (cA, 80, .inl (X 2))), (m4, .inl (cA, 80, .inl (X 3))), (m5, .inl (cA, 80, .inl (X 4))), (m6, .inl (cA, 20, .inl sl)), (m7, .inl (cA, 10, .inl tt)), (m8, .inl (cA, 10, .inl sm)), (m9, .inl (cA, 10, .inl hs)), (m10, .inl (cA, 64, .inl lt))]) [0, 1, 2, 3, 4, 5, 6, 7, 8, 9, 10] (by decide) rfl ?_
        exact ret _ _ _ _ _ _ () d_M_look_26 rfl (by decide) (by decide) rfl rfl

def rm_M_changed : Room := { frames := 4, cells := 0, slots := 0, locals := 96 }
set_option maxHeartbeats 4000000 in
set_option maxRecDepth 100000 in
theorem ct_M_changed_ok (l : Launch) (D : va_G) (cA : ClassId) (m0 m1 m2 m3 m4 m5 m6 m7 m8 m9 m10 : Nat) (th now : Int32) (n : Nat) (rf : Int32) (X : AF) (sl tt sm hs lt : Nat → Int32) (hA0 : aok X n) (t k o : Int32) (ht : win t (nI 0) (nI 10000) = true) (hk : win k (nI 0) (nI 10000) = true) (ho : win o (nI 0) (nI 10000) = true) : Ci (S := AF) l y_M_changed (Cond.code y_M_changed c_M_changed 8 (some .int) :: WD) rm_M_changed D vwCl [(cA, .int)] nws [.ref m0, .int t, .int k, .int o] [(m0, .inr (6, [.int th, .int now, .int (nI n), .int rf, .ref m1, .ref m2, .ref m3, .ref m4, .ref m5, .ref m6, .ref m7, .ref m8, .ref m9, .ref m10])), (m1, .inl (cA, 80, .inl (X 0))), (m2, .inl (cA, 80, .inl (X 1))), (m3, .inl (cA, 80, .inl (X 2))), (m4, .inl (cA, 80, .inl (X 3))), (m5, .inl (cA, 80, .inl (X 4))), (m6, .inl (cA, 20, .inl sl)), (m7, .inl (cA, 10, .inl tt)), (m8, .inl (cA, 10, .inl sm)), (m9, .inl (cA, 10, .inl hs)), (m10, .inl (cA, 64, .inl lt))] 0 0 (fun r _ => r = chgP X n t k o) (fun u => [(m0, .inr (6, [.int (nI 0), .int now, .int (nI n), .int rf, .ref m1, .ref m2, .ref m3, .ref m4, .ref m5, .ref m6, .ref m7, .ref m8, .ref m9, .ref m10])), (m1, .inl (cA, 80, .inl (X 0))), (m2, .inl (cA, 80, .inl (X 1))), (m3, .inl (cA, 80, .inl (X 2))), (m4, .inl (cA, 80, .inl (X 3))), (m5, .inl (cA, 80, .inl (X 4))), (m6, .inl (cA, 20, .inl (u 0))), (m7, .inl (cA, 10, .inl (u 1))), (m8, .inl (cA, 10, .inl (u 2))), (m9, .inl (cA, 10, .inl hs)), (m10, .inl (cA, 64, .inl lt))]) := by
  refine Ci.of (cc := c_M_changed) (nL := 8) (lv := [(0, .ref m0), (1, .int t), (2, .int k), (3, .int o)]) (by decide) rfl (Nat.le_of_ble_eq_true rfl) rfl ?_
  intro p e s m args below meth cd A Q F hK hN hA ret
  have h80 := hA0.1
  refine j_aloadn F d_M_changed_0 0 rfl rfl ?_
  refine j_iloadn F d_M_changed_1 3 rfl rfl ?_
  refine j_goi (wc := []) (wr := [(m0, .inr (6, [.int th, .int now, .int (nI n), .int rf, .ref m1, .ref m2, .ref m3, .ref m4, .ref m5, .ref m6, .ref m7, .ref m8, .ref m9, .ref m10])), (m1, .inl (cA, 80, .inl (X 0))), (m2, .inl (cA, 80, .inl (X 1))), (m3, .inl (cA, 80, .inl (X 2))), (m4, .inl (cA, 80, .inl (X 3))), (m5, .inl (cA, 80, .inl (X 4))), (m6, .inl (cA, 20, .inl sl)), (m7, .inl (cA, 10, .inl tt)), (m8, .inl (cA, 10, .inl sm)), (m9, .inl (cA, 10, .inl hs)), (m10, .inl (cA, 64, .inl lt))]) hA [] [0, 1, 2, 3, 4, 5, 6, 7, 8, 9, 10] rfl rfl (by decide) (by decide) (fun H locs ls hP hD hl => va_runS (As := [.int o]) (rest := [.ref m0]) F (ct_M_isTime l D cA o H.size) ⟨callB_of 1 F.2.2.2.2 (gd k_528) rfl rfl rfl (F.2.2.2.2 _ (wm k_7)) (F.2.2.2.2 _ (wm k_526)) (by decide +kernel) ⟨by decide, by decide⟩, F.2.2.2.2 _ (wm k_527)⟩ (pre_S hK hN hP hD [] rfl (by decide)) rfl rfl hl.1 rfl (lv_room (Nat.le_of_ble_eq_true rfl)) d_M_changed_2 ⟨by decide, by decide⟩) (fun r2 u2 hw2 => ?_)
  subst hw2
  refine j_ws (ws' := [(m0, .inr (6, [.int th, .int now, .int (nI n), .int rf, .ref m1, .ref m2, .ref m3, .ref m4, .ref m5, .ref m6, .ref m7, .ref m8, .ref m9, .ref m10])), (m1, .inl (cA, 80, .inl (X 0))), (m2, .inl (cA, 80, .inl (X 1))), (m3, .inl (cA, 80, .inl (X 2))), (m4, .inl (cA, 80, .inl (X 3))), (m5, .inl (cA, 80, .inl (X 4))), (m6, .inl (cA, 20, .inl sl)), (m7, .inl (cA, 10, .inl tt)), (m8, .inl (cA, 10, .inl sm)), (m9, .inl (cA, 10, .inl hs)), (m10, .inl (cA, 64, .inl lt))]) [0, 1, 2, 3, 4, 5, 6, 7, 8, 9, 10] (by decide) rfl ?_
  refine j_iloadn F d_M_changed_5 1 rfl rfl ?_
  refine j_iloadn F d_M_changed_6 2 rfl rfl ?_
  refine j_goi (wc := [(m0, .inr (6, [.int th, .int now, .int (nI n), .int rf, .ref m1, .ref m2, .ref m3, .ref m4, .ref m5, .ref m6, .ref m7, .ref m8, .ref m9, .ref m10])), (m1, .inl (cA, 80, .inl (X 0))), (m2, .inl (cA, 80, .inl (X 1))), (m3, .inl (cA, 80, .inl (X 2))), (m4, .inl (cA, 80, .inl (X 3))), (m5, .inl (cA, 80, .inl (X 4))), (m6, .inl (cA, 20, .inl sl)), (m7, .inl (cA, 10, .inl tt)), (m8, .inl (cA, 10, .inl sm)), (m9, .inl (cA, 10, .inl hs)), (m10, .inl (cA, 64, .inl lt))]) (wr := []) hA [0, 1, 2, 3, 4, 5, 6, 7, 8, 9, 10] [] rfl rfl (by decide) (by decide) (fun H locs ls hP hD hl => va_runV (As := [.int (bI (win o (nI 0) (nI 10000))), .int t, .int k]) (rest := []) F (ct_M_isAsked_ok l D cA m0 m1 m2 m3 m4 m5 m6 m7 m8 m9 m10 th now n rf X sl tt sm hs lt hA0 (win o (nI 0) (nI 10000)) t k (by rw [ht, hk, ho]; rfl) H.size) ⟨callB_of 3 F.2.2.2.2 (gd k_540) rfl rfl rfl (F.2.2.2.2 _ (wm k_7)) (F.2.2.2.2 _ (wm k_537)) (by decide +kernel) ⟨by decide, by decide⟩, F.2.2.2.2 _ (wm k_539), F.2.2.2.2 _ (wm ks_26)⟩ (pre_V rfl hK hN hP hD [0, 1, 2, 3, 4, 5, 6, 7, 8, 9, 10] rfl (by decide) 0 rfl rfl) rfl rfl hl.1 rfl (lv_room (Nat.le_of_ble_eq_true rfl)) d_M_changed_7 ⟨by decide, by decide⟩) (fun r7 u7 hw7 => ?_)
  subst hw7
  refine j_ws (ws' := [(m0, .inr (6, [.int (nI 0), .int now, .int (nI n), .int rf, .ref m1, .ref m2, .ref m3, .ref m4, .ref m5, .ref m6, .ref m7, .ref m8, .ref m9, .ref m10])), (m1, .inl (cA, 80, .inl (X 0))), (m2, .inl (cA, 80, .inl (X 1))), (m3, .inl (cA, 80, .inl (X 2))), (m4, .inl (cA, 80, .inl (X 3))), (m5, .inl (cA, 80, .inl (X 4))), (m6, .inl (cA, 20, .inl sl)), (m7, .inl (cA, 10, .inl tt)), (m8, .inl (cA, 10, .inl sm)), (m9, .inl (cA, 10, .inl hs)), (m10, .inl (cA, 64, .inl lt))]) [0, 1, 2, 3, 4, 5, 6, 7, 8, 9, 10] (by decide) rfl ?_
  refine j_if_ne (tgt := 15) F d_M_changed_10 (by decide) (fun c_10 => ?_) (fun c_10 => ?_)
  · refine j_iconst (v := nI 0) F d_M_changed_15 (by decide) ?_
    refine j_istore (lv' := [(4, .int (nI 0)), (0, .ref m0), (1, .int t), (2, .int k), (3, .int o)]) F d_M_changed_16 (by decide) rfl ?_
    refine j_iconst (v := nI 0) F d_M_changed_18 (by decide) ?_
    refine j_istore (lv' := [(5, .int (nI 0)), (4, .int (nI 0)), (0, .ref m0), (1, .int t), (2, .int k), (3, .int o)]) F d_M_changed_19 (by decide) rfl ?_
    have loop21 : ∀ (fuel : Nat) (i : Nat) (s1 s2 s3 : Nat → Int32) (hfuel21 : 20 - i < fuel) (hi : i ≤ 20) (hci : cntB (difS (slP X n t k) (slP X n t o)) i ≤ i), J p l e rm_M_changed s m args below meth cd D vwCl A s.heap 8 0 0 Q [(m0, .inr (6, [.int (nI 0), .int now, .int (nI n), .int rf, .ref m1, .ref m2, .ref m3, .ref m4, .ref m5, .ref m6, .ref m7, .ref m8, .ref m9, .ref m10])), (m1, .inl (cA, 80, .inl (X 0))), (m2, .inl (cA, 80, .inl (X 1))), (m3, .inl (cA, 80, .inl (X 2))), (m4, .inl (cA, 80, .inl (X 3))), (m5, .inl (cA, 80, .inl (X 4))), (m6, .inl (cA, 20, .inl s1)), (m7, .inl (cA, 10, .inl s2)), (m8, .inl (cA, 10, .inl s3)), (m9, .inl (cA, 10, .inl hs)), (m10, .inl (cA, 64, .inl lt))] [(0, .ref m0), (1, .int t), (2, .int k), (3, .int o), (4, .int (nI (cntB (difS (slP X n t k) (slP X n t o)) i))), (5, .int (nI i))] 21 [] := by
      intro fuel
      induction fuel with
      | zero => intro i s1 s2 s3 hfuel; exact absurd hfuel (Nat.not_lt_zero _)
      | succ fuel ih21 =>
        intro i s1 s2 s3 hfuel21 hi hci
        refine j_iload F d_M_changed_21 5 rfl ?_
        refine j_bipush (v := nI 20) F d_M_changed_23 (by decide) ?_
        refine j_ic_ge (tgt := 77) F d_M_changed_25 (by decide) (fun c_25 => ?_) (fun c_25 => ?_)
        · have c_25 : 20 ≤ i := (nI_leI (by omega) (by omega)).mp c_25
          have hin : i = 20 := by omega
          subst hin
          refine j_iconst (v := nI 0) F d_M_changed_77 (by decide) ?_
          refine j_istore (lv' := [(5, .int (nI 0)), (0, .ref m0), (1, .int t), (2, .int k), (3, .int o), (4, .int (nI (cntB (difS (slP X n t k) (slP X n t o)) 20)))]) F d_M_changed_78 (by decide) rfl ?_
          have loop80 : ∀ (fuel : Nat) (j : Nat) (s1 s2 s3 : Nat → Int32) (hfuel80 : 10 - j < fuel) (hj : j ≤ 10) (hcj : cntB (difD (ttP X n t k) (ttP X n t o) (smP X n t k) (smP X n t o)) j ≤ j), J p l e rm_M_changed s m args below meth cd D vwCl A s.heap 8 0 0 Q [(m0, .inr (6, [.int (nI 0), .int now, .int (nI n), .int rf, .ref m1, .ref m2, .ref m3, .ref m4, .ref m5, .ref m6, .ref m7, .ref m8, .ref m9, .ref m10])), (m1, .inl (cA, 80, .inl (X 0))), (m2, .inl (cA, 80, .inl (X 1))), (m3, .inl (cA, 80, .inl (X 2))), (m4, .inl (cA, 80, .inl (X 3))), (m5, .inl (cA, 80, .inl (X 4))), (m6, .inl (cA, 20, .inl s1)), (m7, .inl (cA, 10, .inl s2)), (m8, .inl (cA, 10, .inl s3)), (m9, .inl (cA, 10, .inl hs)), (m10, .inl (cA, 64, .inl lt))] [(0, .ref m0), (1, .int t), (2, .int k), (3, .int o), (4, .int (nI (cntB (difS (slP X n t k) (slP X n t o)) 20 + cntB (difD (ttP X n t k) (ttP X n t o) (smP X n t k) (smP X n t o)) j))), (5, .int (nI j))] 80 [] := by
            intro fuel
            induction fuel with
            | zero => intro j s1 s2 s3 hfuel; exact absurd hfuel (Nat.not_lt_zero _)
            | succ fuel ih80 =>
              intro j s1 s2 s3 hfuel80 hj hcj
              refine j_iload F d_M_changed_80 5 rfl ?_
              refine j_bipush (v := nI 10) F d_M_changed_82 (by decide) ?_
              refine j_ic_ge (tgt := 157) F d_M_changed_84 (by decide) (fun c_84 => ?_) (fun c_84 => ?_)
              · have c_84 : 10 ≤ j := (nI_leI (by omega) (by omega)).mp c_84
                have hin : j = 10 := by omega
                subst hin
                refine j_iload F d_M_changed_157 4 rfl ?_
                exact ret _ _ _ _ _ _ (fun r => [s1, s2, s3].getD r (fun _ => 0)) d_M_changed_159 rfl (by decide) (by decide) rfl rfl
              · have c_84 : ¬ 10 ≤ j := fun h => c_84 ((nI_leI (by omega) (by omega)).mpr h)
                refine j_aloadn F d_M_changed_87 0 rfl rfl ?_
                refine j_iloadn F d_M_changed_88 1 rfl rfl ?_
                refine j_iloadn F d_M_changed_89 2 rfl rfl ?_
                refine j_gov (wc := [(m0, .inr (6, [.int (nI 0), .int now, .int (nI n), .int rf, .ref m1, .ref m2, .ref m3, .ref m4, .ref m5, .ref m6, .ref m7, .ref m8, .ref m9, .ref m10])), (m1, .inl (cA, 80, .inl (X 0))), (m2, .inl (cA, 80, .inl (X 1))), (m3, .inl (cA, 80, .inl (X 2))), (m4, .inl (cA, 80, .inl (X 3))), (m5, .inl (cA, 80, .inl (X 4))), (m6, .inl (cA, 20, .inl s1)), (m7, .inl (cA, 10, .inl s2)), (m8, .inl (cA, 10, .inl s3)), (m9, .inl (cA, 10, .inl hs)), (m10, .inl (cA, 64, .inl lt))]) (wr := []) hA [0, 1, 2, 3, 4, 5, 6, 7, 8, 9, 10] [] rfl rfl (by decide) (by decide) (fun H locs ls hP hD hl => va_runV (As := [.int t, .int k]) (rest := []) F (ct_M_finds l D cA m0 m1 m2 m3 m4 m5 m6 m7 m8 m9 m10 (nI 0) now n rf X s1 s2 s3 hs lt hA0 t k  H.size) ⟨callB_of 2 F.2.2.2.2 (gd k_544) rfl rfl rfl (F.2.2.2.2 _ (wm k_7)) (F.2.2.2.2 _ (wm k_541)) (by decide +kernel) ⟨by decide, by decide⟩, F.2.2.2.2 _ (wm k_543), F.2.2.2.2 _ (wm ks_27)⟩ (pre_V rfl hK hN hP hD [0, 1, 2, 3, 4, 5, 6, 7, 8, 9, 10] rfl (by decide) 0 rfl rfl) rfl rfl hl.1 rfl (lv_room (Nat.le_of_ble_eq_true rfl)) d_M_changed_90 ⟨by decide, by decide⟩) (fun u90 hw90 => ?_)
                refine j_ws (ws' := [(m0, .inr (6, [.int (nI 0), .int now, .int (nI n), .int rf, .ref m1, .ref m2, .ref m3, .ref m4, .ref m5, .ref m6, .ref m7, .ref m8, .ref m9, .ref m10])), (m1, .inl (cA, 80, .inl (X 0))), (m2, .inl (cA, 80, .inl (X 1))), (m3, .inl (cA, 80, .inl (X 2))), (m4, .inl (cA, 80, .inl (X 3))), (m5, .inl (cA, 80, .inl (X 4))), (m6, .inl (cA, 20, .inl (slP X n t k))), (m7, .inl (cA, 10, .inl (ttP X n t k))), (m8, .inl (cA, 10, .inl (smP X n t k))), (m9, .inl (cA, 10, .inl hs)), (m10, .inl (cA, 64, .inl lt))]) [0, 1, 2, 3, 4, 5, 6, 7, 8, 9, 10] (by decide) rfl ?_
                refine j_aloadn F d_M_changed_93 0 rfl rfl ?_
                refine j_get (ci := 6) (v := .ref m7) F in_M hK 0 rfl rfl 10 (by decide) (wm k_476) rfl d_M_changed_94 ?_
                refine j_iload F d_M_changed_97 5 rfl ?_
                refine j_iald (v := (ttP X n t k) j) F hK 7 0 rfl rfl (by omega) (by decide) d_M_changed_99 rfl ?_
                refine j_istore (lv' := [(6, .int ((ttP X n t k) j)), (0, .ref m0), (1, .int t), (2, .int k), (3, .int o), (4, .int (nI (cntB (difS (slP X n t k) (slP X n t o)) 20 + cntB (difD (ttP X n t k) (ttP X n t o) (smP X n t k) (smP X n t o)) j))), (5, .int (nI j))]) F d_M_changed_100 (by decide) rfl ?_
                refine j_aloadn F d_M_changed_102 1 rfl rfl ?_
                refine j_get (ci := 6) (v := .ref m8) F in_M hK 0 rfl rfl 11 (by decide) (wm k_477) rfl d_M_changed_103 ?_
                refine j_iload F d_M_changed_106 6 rfl ?_
                refine j_iald (v := (smP X n t k) j) F hK 8 0 rfl rfl (by omega) (by decide) d_M_changed_108 rfl ?_
                refine j_istore (lv' := [(7, .int ((smP X n t k) j)), (6, .int ((ttP X n t k) j)), (0, .ref m0), (1, .int t), (2, .int k), (3, .int o), (4, .int (nI (cntB (difS (slP X n t k) (slP X n t o)) 20 + cntB (difD (ttP X n t k) (ttP X n t o) (smP X n t k) (smP X n t o)) j))), (5, .int (nI j))]) F d_M_changed_109 (by decide) rfl ?_
                refine j_aloadn F d_M_changed_111 2 rfl rfl ?_
                refine j_iloadn F d_M_changed_112 3 rfl rfl ?_
                refine j_iloadn F d_M_changed_113 5 rfl rfl ?_
                refine j_gov (wc := [(m0, .inr (6, [.int (nI 0), .int now, .int (nI n), .int rf, .ref m1, .ref m2, .ref m3, .ref m4, .ref m5, .ref m6, .ref m7, .ref m8, .ref m9, .ref m10])), (m1, .inl (cA, 80, .inl (X 0))), (m2, .inl (cA, 80, .inl (X 1))), (m3, .inl (cA, 80, .inl (X 2))), (m4, .inl (cA, 80, .inl (X 3))), (m5, .inl (cA, 80, .inl (X 4))), (m6, .inl (cA, 20, .inl (slP X n t k))), (m7, .inl (cA, 10, .inl (ttP X n t k))), (m8, .inl (cA, 10, .inl (smP X n t k))), (m9, .inl (cA, 10, .inl hs)), (m10, .inl (cA, 64, .inl lt))]) (wr := []) hA [0, 1, 2, 3, 4, 5, 6, 7, 8, 9, 10] [] rfl rfl (by decide) (by decide) (fun H locs ls hP hD hl => va_runV (As := [.int t, .int o]) (rest := []) F (ct_M_finds l D cA m0 m1 m2 m3 m4 m5 m6 m7 m8 m9 m10 (nI 0) now n rf X (slP X n t k) (ttP X n t k) (smP X n t k) hs lt hA0 t o  H.size) ⟨callB_of 2 F.2.2.2.2 (gd k_544) rfl rfl rfl (F.2.2.2.2 _ (wm k_7)) (F.2.2.2.2 _ (wm k_541)) (by decide +kernel) ⟨by decide, by decide⟩, F.2.2.2.2 _ (wm k_543), F.2.2.2.2 _ (wm ks_27)⟩ (pre_V rfl hK hN hP hD [0, 1, 2, 3, 4, 5, 6, 7, 8, 9, 10] rfl (by decide) 0 rfl rfl) rfl rfl hl.1 rfl (lv_room (Nat.le_of_ble_eq_true rfl)) d_M_changed_114 ⟨by decide, by decide⟩) (fun u114 hw114 => ?_)
                refine j_ws (ws' := [(m0, .inr (6, [.int (nI 0), .int now, .int (nI n), .int rf, .ref m1, .ref m2, .ref m3, .ref m4, .ref m5, .ref m6, .ref m7, .ref m8, .ref m9, .ref m10])), (m1, .inl (cA, 80, .inl (X 0))), (m2, .inl (cA, 80, .inl (X 1))), (m3, .inl (cA, 80, .inl (X 2))), (m4, .inl (cA, 80, .inl (X 3))), (m5, .inl (cA, 80, .inl (X 4))), (m6, .inl (cA, 20, .inl (slP X n t o))), (m7, .inl (cA, 10, .inl (ttP X n t o))), (m8, .inl (cA, 10, .inl (smP X n t o))), (m9, .inl (cA, 10, .inl hs)), (m10, .inl (cA, 64, .inl lt))]) [0, 1, 2, 3, 4, 5, 6, 7, 8, 9, 10] (by decide) rfl ?_
                refine j_iload F d_M_changed_117 6 rfl ?_
                refine j_aloadn F d_M_changed_119 2 rfl rfl ?_
                refine j_get (ci := 6) (v := .ref m7) F in_M hK 0 rfl rfl 10 (by decide) (wm k_476) rfl d_M_changed_120 ?_
                refine j_iload F d_M_changed_123 7 rfl ?_
                refine j_iald (v := (ttP X n t o) j) F hK 7 0 rfl rfl (by omega) (by decide) d_M_changed_125 rfl ?_
                refine j_iload F d_M_changed_126 1 rfl ?_
                refine j_ic_ne (tgt := 143) F d_M_changed_128 (by decide) (fun c_128 => ?_) (fun c_128 => ?_)
                · refine j_iconst (v := nI 1) F d_M_changed_143 (by decide) ?_
                  refine j_goto (tgt := 148) F d_M_changed_144 (by decide) ?_
                  refine j_iadd (v := nI (cntB (difS (slP X n t k) (slP X n t o)) 20 + cntB (difD (ttP X n t k) (ttP X n t o) (smP X n t k) (smP X n t o)) (j + 1))) F d_M_changed_148 (by rw [nI_add, cntB_t (p := difD (ttP X n t k) (ttP X n t o) (smP X n t k) (smP X n t o)) (show (!(decide (ttP X n t k j = ttP X n t o j) && decide (smP X n t k j = smP X n t o j))) = true by rw [decide_eq_false (fun h => c_128 h.symm)]; rfl), Nat.add_assoc]) ?_
                  refine j_istore (lv' := [(4, .int (nI (cntB (difS (slP X n t k) (slP X n t o)) 20 + cntB (difD (ttP X n t k) (ttP X n t o) (smP X n t k) (smP X n t o)) (j + 1)))), (7, .int ((smP X n t k) j)), (6, .int ((ttP X n t k) j)), (0, .ref m0), (1, .int t), (2, .int k), (3, .int o), (5, .int (nI j))]) F d_M_changed_149 (by decide) rfl ?_
                  refine j_iinc (v := nI (j + 1)) (lv' := [(5, .int (nI (j + 1))), (4, .int (nI (cntB (difS (slP X n t k) (slP X n t o)) 20 + cntB (difD (ttP X n t k) (ttP X n t o) (smP X n t k) (smP X n t o)) (j + 1)))), (7, .int ((smP X n t k) j)), (6, .int ((ttP X n t k) j)), (0, .ref m0), (1, .int t), (2, .int k), (3, .int o)]) F d_M_changed_151 7 rfl (jn_inc j) (by decide) rfl ?_
                  refine j_goto (tgt := 80) F d_M_changed_154 (by decide) ?_
                  refine j_lv (lv' := [(0, .ref m0), (1, .int t), (2, .int k), (3, .int o), (4, .int (nI (cntB (difS (slP X n t k) (slP X n t o)) 20 + cntB (difD (ttP X n t k) (ttP X n t o) (smP X n t k) (smP X n t o)) (j + 1)))), (5, .int (nI (j + 1)))]) [4, 5, 6, 7, 1, 0] rfl ?_
                  exact ih80 (j + 1) (slP X n t o) (ttP X n t o) (smP X n t o) (by omega) (by omega) (cntB_le _ _)
                · refine j_aloadn F d_M_changed_131 2 rfl rfl ?_
                  refine j_get (ci := 6) (v := .ref m8) F in_M hK 0 rfl rfl 11 (by decide) (wm k_477) rfl d_M_changed_132 ?_
                  refine j_iload F d_M_changed_135 7 rfl ?_
                  refine j_iald (v := (smP X n t o) j) F hK 8 0 rfl rfl (by omega) (by decide) d_M_changed_137 rfl ?_
                  refine j_iload F d_M_changed_138 0 rfl ?_
                  refine j_ic_eq (tgt := 147) F d_M_changed_140 (by decide) (fun c_140 => ?_) (fun c_140 => ?_)
                  · refine j_iconst (v := nI 0) F d_M_changed_147 (by decide) ?_
                    refine j_iadd (v := nI (cntB (difS (slP X n t k) (slP X n t o)) 20 + cntB (difD (ttP X n t k) (ttP X n t o) (smP X n t k) (smP X n t o)) (j + 1))) F d_M_changed_148 (by rw [nI_add, cntB_f (p := difD (ttP X n t k) (ttP X n t o) (smP X n t k) (smP X n t o)) (show (!(decide (ttP X n t k j = ttP X n t o j) && decide (smP X n t k j = smP X n t o j))) = false by rw [decide_eq_true c_128.symm, decide_eq_true c_140.symm]; rfl), Nat.add_zero]) ?_
                    refine j_istore (lv' := [(4, .int (nI (cntB (difS (slP X n t k) (slP X n t o)) 20 + cntB (difD (ttP X n t k) (ttP X n t o) (smP X n t k) (smP X n t o)) (j + 1)))), (7, .int ((smP X n t k) j)), (6, .int ((ttP X n t k) j)), (0, .ref m0), (1, .int t), (2, .int k), (3, .int o), (5, .int (nI j))]) F d_M_changed_149 (by decide) rfl ?_
                    refine j_iinc (v := nI (j + 1)) (lv' := [(5, .int (nI (j + 1))), (4, .int (nI (cntB (difS (slP X n t k) (slP X n t o)) 20 + cntB (difD (ttP X n t k) (ttP X n t o) (smP X n t k) (smP X n t o)) (j + 1)))), (7, .int ((smP X n t k) j)), (6, .int ((ttP X n t k) j)), (0, .ref m0), (1, .int t), (2, .int k), (3, .int o)]) F d_M_changed_151 7 rfl (jn_inc j) (by decide) rfl ?_
                    refine j_goto (tgt := 80) F d_M_changed_154 (by decide) ?_
                    refine j_lv (lv' := [(0, .ref m0), (1, .int t), (2, .int k), (3, .int o), (4, .int (nI (cntB (difS (slP X n t k) (slP X n t o)) 20 + cntB (difD (ttP X n t k) (ttP X n t o) (smP X n t k) (smP X n t o)) (j + 1)))), (5, .int (nI (j + 1)))]) [4, 5, 6, 7, 1, 0] rfl ?_
                    exact ih80 (j + 1) (slP X n t o) (ttP X n t o) (smP X n t o) (by omega) (by omega) (cntB_le _ _)
                  · refine j_iconst (v := nI 1) F d_M_changed_143 (by decide) ?_
                    refine j_goto (tgt := 148) F d_M_changed_144 (by decide) ?_
                    refine j_iadd (v := nI (cntB (difS (slP X n t k) (slP X n t o)) 20 + cntB (difD (ttP X n t k) (ttP X n t o) (smP X n t k) (smP X n t o)) (j + 1))) F d_M_changed_148 (by rw [nI_add, cntB_t (p := difD (ttP X n t k) (ttP X n t o) (smP X n t k) (smP X n t o)) (show (!(decide (ttP X n t k j = ttP X n t o j) && decide (smP X n t k j = smP X n t o j))) = true by rw [decide_eq_false (p := smP X n t k j = smP X n t o j) (fun h => c_140 h.symm), Bool.and_false]; rfl), Nat.add_assoc]) ?_
                    refine j_istore (lv' := [(4, .int (nI (cntB (difS (slP X n t k) (slP X n t o)) 20 + cntB (difD (ttP X n t k) (ttP X n t o) (smP X n t k) (smP X n t o)) (j + 1)))), (7, .int ((smP X n t k) j)), (6, .int ((ttP X n t k) j)), (0, .ref m0), (1, .int t), (2, .int k), (3, .int o), (5, .int (nI j))]) F d_M_changed_149 (by decide) rfl ?_
                    refine j_iinc (v := nI (j + 1)) (lv' := [(5, .int (nI (j + 1))), (4, .int (nI (cntB (difS (slP X n t k) (slP X n t o)) 20 + cntB (difD (ttP X n t k) (ttP X n t o) (smP X n t k) (smP X n t o)) (j + 1)))), (7, .int ((smP X n t k) j)), (6, .int ((ttP X n t k) j)), (0, .ref m0), (1, .int t), (2, .int k), (3, .int o)]) F d_M_changed_151 7 rfl (jn_inc j) (by decide) rfl ?_
                    refine j_goto (tgt := 80) F d_M_changed_154 (by decide) ?_
                    refine j_lv (lv' := [(0, .ref m0), (1, .int t), (2, .int k), (3, .int o), (4, .int (nI (cntB (difS (slP X n t k) (slP X n t o)) 20 + cntB (difD (ttP X n t k) (ttP X n t o) (smP X n t k) (smP X n t o)) (j + 1)))), (5, .int (nI (j + 1)))]) [4, 5, 6, 7, 1, 0] rfl ?_
                    exact ih80 (j + 1) (slP X n t o) (ttP X n t o) (smP X n t o) (by omega) (by omega) (cntB_le _ _)
          refine j_lv (lv' := [(0, .ref m0), (1, .int t), (2, .int k), (3, .int o), (4, .int (nI (cntB (difS (slP X n t k) (slP X n t o)) 20))), (5, .int (nI 0))]) [1, 2, 3, 4, 5, 0] rfl ?_
          exact loop80 (10 + 1) 0 s1 s2 s3 (by omega) (by omega) (cntB_le _ _)
        · have c_25 : ¬ 20 ≤ i := fun h => c_25 ((nI_leI (by omega) (by omega)).mpr h)
          refine j_aloadn F d_M_changed_28 0 rfl rfl ?_
          refine j_iloadn F d_M_changed_29 1 rfl rfl ?_
          refine j_iloadn F d_M_changed_30 2 rfl rfl ?_
          refine j_gov (wc := [(m0, .inr (6, [.int (nI 0), .int now, .int (nI n), .int rf, .ref m1, .ref m2, .ref m3, .ref m4, .ref m5, .ref m6, .ref m7, .ref m8, .ref m9, .ref m10])), (m1, .inl (cA, 80, .inl (X 0))), (m2, .inl (cA, 80, .inl (X 1))), (m3, .inl (cA, 80, .inl (X 2))), (m4, .inl (cA, 80, .inl (X 3))), (m5, .inl (cA, 80, .inl (X 4))), (m6, .inl (cA, 20, .inl s1)), (m7, .inl (cA, 10, .inl s2)), (m8, .inl (cA, 10, .inl s3)), (m9, .inl (cA, 10, .inl hs)), (m10, .inl (cA, 64, .inl lt))]) (wr := []) hA [0, 1, 2, 3, 4, 5, 6, 7, 8, 9, 10] [] rfl rfl (by decide) (by decide) (fun H locs ls hP hD hl => va_runV (As := [.int t, .int k]) (rest := []) F (ct_M_finds l D cA m0 m1 m2 m3 m4 m5 m6 m7 m8 m9 m10 (nI 0) now n rf X s1 s2 s3 hs lt hA0 t k  H.size) ⟨callB_of 2 F.2.2.2.2 (gd k_544) rfl rfl rfl (F.2.2.2.2 _ (wm k_7)) (F.2.2.2.2 _ (wm k_541)) (by decide +kernel) ⟨by decide, by decide⟩, F.2.2.2.2 _ (wm k_543), F.2.2.2.2 _ (wm ks_27)⟩ (pre_V rfl hK hN hP hD [0, 1, 2, 3, 4, 5, 6, 7, 8, 9, 10] rfl (by decide) 0 rfl rfl) rfl rfl hl.1 rfl (lv_room (Nat.le_of_ble_eq_true rfl)) d_M_changed_31 ⟨by decide, by decide⟩) (fun u31 hw31 => ?_)
          refine j_ws (ws' := [(m0, .inr (6, [.int (nI 0), .int now, .int (nI n), .int rf, .ref m1, .ref m2, .ref m3, .ref m4, .ref m5, .ref m6, .ref m7, .ref m8, .ref m9, .ref m10])), (m1, .inl (cA, 80, .inl (X 0))), (m2, .inl (cA, 80, .inl (X 1))), (m3, .inl (cA, 80, .inl (X 2))), (m4, .inl (cA, 80, .inl (X 3))), (m5, .inl (cA, 80, .inl (X 4))), (m6, .inl (cA, 20, .inl (slP X n t k))), (m7, .inl (cA, 10, .inl (ttP X n t k))), (m8, .inl (cA, 10, .inl (smP X n t k))), (m9, .inl (cA, 10, .inl hs)), (m10, .inl (cA, 64, .inl lt))]) [0, 1, 2, 3, 4, 5, 6, 7, 8, 9, 10] (by decide) rfl ?_
          refine j_aloadn F d_M_changed_34 0 rfl rfl ?_
          refine j_get (ci := 6) (v := .ref m6) F in_M hK 0 rfl rfl 9 (by decide) (wm k_475) rfl d_M_changed_35 ?_
          refine j_iload F d_M_changed_38 5 rfl ?_
          refine j_iald (v := (slP X n t k) i) F hK 6 0 rfl rfl (by omega) (by decide) d_M_changed_40 rfl ?_
          refine j_istore (lv' := [(6, .int ((slP X n t k) i)), (0, .ref m0), (1, .int t), (2, .int k), (3, .int o), (4, .int (nI (cntB (difS (slP X n t k) (slP X n t o)) i))), (5, .int (nI i))]) F d_M_changed_41 (by decide) rfl ?_
          refine j_aloadn F d_M_changed_43 1 rfl rfl ?_
          refine j_iloadn F d_M_changed_44 2 rfl rfl ?_
          refine j_iloadn F d_M_changed_45 4 rfl rfl ?_
          refine j_gov (wc := [(m0, .inr (6, [.int (nI 0), .int now, .int (nI n), .int rf, .ref m1, .ref m2, .ref m3, .ref m4, .ref m5, .ref m6, .ref m7, .ref m8, .ref m9, .ref m10])), (m1, .inl (cA, 80, .inl (X 0))), (m2, .inl (cA, 80, .inl (X 1))), (m3, .inl (cA, 80, .inl (X 2))), (m4, .inl (cA, 80, .inl (X 3))), (m5, .inl (cA, 80, .inl (X 4))), (m6, .inl (cA, 20, .inl (slP X n t k))), (m7, .inl (cA, 10, .inl (ttP X n t k))), (m8, .inl (cA, 10, .inl (smP X n t k))), (m9, .inl (cA, 10, .inl hs)), (m10, .inl (cA, 64, .inl lt))]) (wr := []) hA [0, 1, 2, 3, 4, 5, 6, 7, 8, 9, 10] [] rfl rfl (by decide) (by decide) (fun H locs ls hP hD hl => va_runV (As := [.int t, .int o]) (rest := []) F (ct_M_finds l D cA m0 m1 m2 m3 m4 m5 m6 m7 m8 m9 m10 (nI 0) now n rf X (slP X n t k) (ttP X n t k) (smP X n t k) hs lt hA0 t o  H.size) ⟨callB_of 2 F.2.2.2.2 (gd k_544) rfl rfl rfl (F.2.2.2.2 _ (wm k_7)) (F.2.2.2.2 _ (wm k_541)) (by decide +kernel) ⟨by decide, by decide⟩, F.2.2.2.2 _ (wm k_543), F.2.2.2.2 _ (wm ks_27)⟩ (pre_V rfl hK hN hP hD [0, 1, 2, 3, 4, 5, 6, 7, 8, 9, 10] rfl (by decide) 0 rfl rfl) rfl rfl hl.1 rfl (lv_room (Nat.le_of_ble_eq_true rfl)) d_M_changed_46 ⟨by decide, by decide⟩) (fun u46 hw46 => ?_)
          refine j_ws (ws' := [(m0, .inr (6, [.int (nI 0), .int now, .int (nI n), .int rf, .ref m1, .ref m2, .ref m3, .ref m4, .ref m5, .ref m6, .ref m7, .ref m8, .ref m9, .ref m10])), (m1, .inl (cA, 80, .inl (X 0))), (m2, .inl (cA, 80, .inl (X 1))), (m3, .inl (cA, 80, .inl (X 2))), (m4, .inl (cA, 80, .inl (X 3))), (m5, .inl (cA, 80, .inl (X 4))), (m6, .inl (cA, 20, .inl (slP X n t o))), (m7, .inl (cA, 10, .inl (ttP X n t o))), (m8, .inl (cA, 10, .inl (smP X n t o))), (m9, .inl (cA, 10, .inl hs)), (m10, .inl (cA, 64, .inl lt))]) [0, 1, 2, 3, 4, 5, 6, 7, 8, 9, 10] (by decide) rfl ?_
          refine j_iload F d_M_changed_49 5 rfl ?_
          refine j_aloadn F d_M_changed_51 1 rfl rfl ?_
          refine j_get (ci := 6) (v := .ref m6) F in_M hK 0 rfl rfl 9 (by decide) (wm k_475) rfl d_M_changed_52 ?_
          refine j_iload F d_M_changed_55 6 rfl ?_
          refine j_iald (v := (slP X n t o) i) F hK 6 0 rfl rfl (by omega) (by decide) d_M_changed_57 rfl ?_
          refine j_iload F d_M_changed_58 0 rfl ?_
          refine j_ic_eq (tgt := 67) F d_M_changed_60 (by decide) (fun c_60 => ?_) (fun c_60 => ?_)
          · refine j_iconst (v := nI 0) F d_M_changed_67 (by decide) ?_
            refine j_iadd (v := nI (cntB (difS (slP X n t k) (slP X n t o)) (i + 1))) F d_M_changed_68 (by rw [nI_add, cntB_f (p := difS (slP X n t k) (slP X n t o)) (show (!decide (slP X n t k i = slP X n t o i)) = false by rw [decide_eq_true c_60.symm]; rfl), Nat.add_zero]) ?_
            refine j_istore (lv' := [(4, .int (nI (cntB (difS (slP X n t k) (slP X n t o)) (i + 1)))), (6, .int ((slP X n t k) i)), (0, .ref m0), (1, .int t), (2, .int k), (3, .int o), (5, .int (nI i))]) F d_M_changed_69 (by decide) rfl ?_
            refine j_iinc (v := nI (i + 1)) (lv' := [(5, .int (nI (i + 1))), (4, .int (nI (cntB (difS (slP X n t k) (slP X n t o)) (i + 1)))), (6, .int ((slP X n t k) i)), (0, .ref m0), (1, .int t), (2, .int k), (3, .int o)]) F d_M_changed_71 6 rfl (jn_inc i) (by decide) rfl ?_
            refine j_goto (tgt := 21) F d_M_changed_74 (by decide) ?_
            refine j_lv (lv' := [(0, .ref m0), (1, .int t), (2, .int k), (3, .int o), (4, .int (nI (cntB (difS (slP X n t k) (slP X n t o)) (i + 1)))), (5, .int (nI (i + 1)))]) [3, 4, 5, 6, 1, 0] rfl ?_
            exact ih21 (i + 1) (slP X n t o) (ttP X n t o) (smP X n t o) (by omega) (by omega) (cntB_le _ _)
          · refine j_iconst (v := nI 1) F d_M_changed_63 (by decide) ?_
            refine j_goto (tgt := 68) F d_M_changed_64 (by decide) ?_
            refine j_iadd (v := nI (cntB (difS (slP X n t k) (slP X n t o)) (i + 1))) F d_M_changed_68 (by rw [nI_add, cntB_t (p := difS (slP X n t k) (slP X n t o)) (show (!decide (slP X n t k i = slP X n t o i)) = true by rw [decide_eq_false (fun h => c_60 h.symm)]; rfl)]) ?_
            refine j_istore (lv' := [(4, .int (nI (cntB (difS (slP X n t k) (slP X n t o)) (i + 1)))), (6, .int ((slP X n t k) i)), (0, .ref m0), (1, .int t), (2, .int k), (3, .int o), (5, .int (nI i))]) F d_M_changed_69 (by decide) rfl ?_
            refine j_iinc (v := nI (i + 1)) (lv' := [(5, .int (nI (i + 1))), (4, .int (nI (cntB (difS (slP X n t k) (slP X n t o)) (i + 1)))), (6, .int ((slP X n t k) i)), (0, .ref m0), (1, .int t), (2, .int k), (3, .int o)]) F d_M_changed_71 6 rfl (jn_inc i) (by decide) rfl ?_
            refine j_goto (tgt := 21) F d_M_changed_74 (by decide) ?_
            refine j_lv (lv' := [(0, .ref m0), (1, .int t), (2, .int k), (3, .int o), (4, .int (nI (cntB (difS (slP X n t k) (slP X n t o)) (i + 1)))), (5, .int (nI (i + 1)))]) [3, 4, 5, 6, 1, 0] rfl ?_
            exact ih21 (i + 1) (slP X n t o) (ttP X n t o) (smP X n t o) (by omega) (by omega) (cntB_le _ _)
    refine j_lv (lv' := [(0, .ref m0), (1, .int t), (2, .int k), (3, .int o), (4, .int (nI 0)), (5, .int (nI 0))]) [2, 3, 4, 5, 1, 0] rfl ?_
    exact loop21 (20 + 1) 0 sl tt sm (by omega) (by omega) (cntB_le _ _)
  · exact absurd c_10 (by decide)

set_option maxHeartbeats 4000000 in
set_option maxRecDepth 100000 in
theorem ct_M_changed_no (l : Launch) (D : va_G) (cA : ClassId) (m0 m1 m2 m3 m4 m5 m6 m7 m8 m9 m10 : Nat) (th now : Int32) (n : Nat) (rf : Int32) (X : AF) (sl tt sm hs lt : Nat → Int32) (hA0 : aok X n) (t k o : Int32) (hbad : (win o (nI 0) (nI 10000) && (win t (nI 0) (nI 10000) && win k (nI 0) (nI 10000))) = false) : Ci (S := Unit) l y_M_changed (Cond.code y_M_changed c_M_changed 8 (some .int) :: WD) rm_M_changed D vwCl [(cA, .int)] nws [.ref m0, .int t, .int k, .int o] [(m0, .inr (6, [.int th, .int now, .int (nI n), .int rf, .ref m1, .ref m2, .ref m3, .ref m4, .ref m5, .ref m6, .ref m7, .ref m8, .ref m9, .ref m10])), (m1, .inl (cA, 80, .inl (X 0))), (m2, .inl (cA, 80, .inl (X 1))), (m3, .inl (cA, 80, .inl (X 2))), (m4, .inl (cA, 80, .inl (X 3))), (m5, .inl (cA, 80, .inl (X 4))), (m6, .inl (cA, 20, .inl sl)), (m7, .inl (cA, 10, .inl tt)), (m8, .inl (cA, 10, .inl sm)), (m9, .inl (cA, 10, .inl hs)), (m10, .inl (cA, 64, .inl lt))] 0 0 (fun r _ => r = nI 0) (fun _ => [(m0, .inr (6, [.int (nI 1), .int now, .int (nI n), .int rf, .ref m1, .ref m2, .ref m3, .ref m4, .ref m5, .ref m6, .ref m7, .ref m8, .ref m9, .ref m10])), (m1, .inl (cA, 80, .inl (X 0))), (m2, .inl (cA, 80, .inl (X 1))), (m3, .inl (cA, 80, .inl (X 2))), (m4, .inl (cA, 80, .inl (X 3))), (m5, .inl (cA, 80, .inl (X 4))), (m6, .inl (cA, 20, .inl sl)), (m7, .inl (cA, 10, .inl tt)), (m8, .inl (cA, 10, .inl sm)), (m9, .inl (cA, 10, .inl hs)), (m10, .inl (cA, 64, .inl lt))]) := by
  refine Ci.of (cc := c_M_changed) (nL := 8) (lv := [(0, .ref m0), (1, .int t), (2, .int k), (3, .int o)]) (by decide) rfl (Nat.le_of_ble_eq_true rfl) rfl ?_
  intro p e s m args below meth cd A Q F hK hN hA ret
  refine j_aloadn F d_M_changed_0 0 rfl rfl ?_
  refine j_iloadn F d_M_changed_1 3 rfl rfl ?_
  refine j_goi (wc := []) (wr := [(m0, .inr (6, [.int th, .int now, .int (nI n), .int rf, .ref m1, .ref m2, .ref m3, .ref m4, .ref m5, .ref m6, .ref m7, .ref m8, .ref m9, .ref m10])), (m1, .inl (cA, 80, .inl (X 0))), (m2, .inl (cA, 80, .inl (X 1))), (m3, .inl (cA, 80, .inl (X 2))), (m4, .inl (cA, 80, .inl (X 3))), (m5, .inl (cA, 80, .inl (X 4))), (m6, .inl (cA, 20, .inl sl)), (m7, .inl (cA, 10, .inl tt)), (m8, .inl (cA, 10, .inl sm)), (m9, .inl (cA, 10, .inl hs)), (m10, .inl (cA, 64, .inl lt))]) hA [] [0, 1, 2, 3, 4, 5, 6, 7, 8, 9, 10] rfl rfl (by decide) (by decide) (fun H locs ls hP hD hl => va_runS (As := [.int o]) (rest := [.ref m0]) F (ct_M_isTime l D cA o H.size) ⟨callB_of 1 F.2.2.2.2 (gd k_528) rfl rfl rfl (F.2.2.2.2 _ (wm k_7)) (F.2.2.2.2 _ (wm k_526)) (by decide +kernel) ⟨by decide, by decide⟩, F.2.2.2.2 _ (wm k_527)⟩ (pre_S hK hN hP hD [] rfl (by decide)) rfl rfl hl.1 rfl (lv_room (Nat.le_of_ble_eq_true rfl)) d_M_changed_2 ⟨by decide, by decide⟩) (fun r2 u2 hw2 => ?_)
  subst hw2
  refine j_ws (ws' := [(m0, .inr (6, [.int th, .int now, .int (nI n), .int rf, .ref m1, .ref m2, .ref m3, .ref m4, .ref m5, .ref m6, .ref m7, .ref m8, .ref m9, .ref m10])), (m1, .inl (cA, 80, .inl (X 0))), (m2, .inl (cA, 80, .inl (X 1))), (m3, .inl (cA, 80, .inl (X 2))), (m4, .inl (cA, 80, .inl (X 3))), (m5, .inl (cA, 80, .inl (X 4))), (m6, .inl (cA, 20, .inl sl)), (m7, .inl (cA, 10, .inl tt)), (m8, .inl (cA, 10, .inl sm)), (m9, .inl (cA, 10, .inl hs)), (m10, .inl (cA, 64, .inl lt))]) [0, 1, 2, 3, 4, 5, 6, 7, 8, 9, 10] (by decide) rfl ?_
  refine j_iloadn F d_M_changed_5 1 rfl rfl ?_
  refine j_iloadn F d_M_changed_6 2 rfl rfl ?_
  refine j_goi (wc := [(m0, .inr (6, [.int th, .int now, .int (nI n), .int rf, .ref m1, .ref m2, .ref m3, .ref m4, .ref m5, .ref m6, .ref m7, .ref m8, .ref m9, .ref m10])), (m1, .inl (cA, 80, .inl (X 0))), (m2, .inl (cA, 80, .inl (X 1))), (m3, .inl (cA, 80, .inl (X 2))), (m4, .inl (cA, 80, .inl (X 3))), (m5, .inl (cA, 80, .inl (X 4))), (m6, .inl (cA, 20, .inl sl)), (m7, .inl (cA, 10, .inl tt)), (m8, .inl (cA, 10, .inl sm)), (m9, .inl (cA, 10, .inl hs)), (m10, .inl (cA, 64, .inl lt))]) (wr := []) hA [0, 1, 2, 3, 4, 5, 6, 7, 8, 9, 10] [] rfl rfl (by decide) (by decide) (fun H locs ls hP hD hl => va_runV (As := [.int (bI (win o (nI 0) (nI 10000))), .int t, .int k]) (rest := []) F (ct_M_isAsked_no l D cA m0 m1 m2 m3 m4 m5 m6 m7 m8 m9 m10 th now n rf X sl tt sm hs lt hA0 (win o (nI 0) (nI 10000)) t k hbad H.size) ⟨callB_of 3 F.2.2.2.2 (gd k_540) rfl rfl rfl (F.2.2.2.2 _ (wm k_7)) (F.2.2.2.2 _ (wm k_537)) (by decide +kernel) ⟨by decide, by decide⟩, F.2.2.2.2 _ (wm k_539), F.2.2.2.2 _ (wm ks_26)⟩ (pre_V rfl hK hN hP hD [0, 1, 2, 3, 4, 5, 6, 7, 8, 9, 10] rfl (by decide) 0 rfl rfl) rfl rfl hl.1 rfl (lv_room (Nat.le_of_ble_eq_true rfl)) d_M_changed_7 ⟨by decide, by decide⟩) (fun r7 u7 hw7 => ?_)
  subst hw7
  refine j_ws (ws' := [(m0, .inr (6, [.int (nI 1), .int now, .int (nI n), .int rf, .ref m1, .ref m2, .ref m3, .ref m4, .ref m5, .ref m6, .ref m7, .ref m8, .ref m9, .ref m10])), (m1, .inl (cA, 80, .inl (X 0))), (m2, .inl (cA, 80, .inl (X 1))), (m3, .inl (cA, 80, .inl (X 2))), (m4, .inl (cA, 80, .inl (X 3))), (m5, .inl (cA, 80, .inl (X 4))), (m6, .inl (cA, 20, .inl sl)), (m7, .inl (cA, 10, .inl tt)), (m8, .inl (cA, 10, .inl sm)), (m9, .inl (cA, 10, .inl hs)), (m10, .inl (cA, 64, .inl lt))]) [0, 1, 2, 3, 4, 5, 6, 7, 8, 9, 10] (by decide) rfl ?_
  refine j_if_ne (tgt := 15) F d_M_changed_10 (by decide) (fun c_10 => ?_) (fun c_10 => ?_)
  · exact absurd rfl c_10
  · refine j_iconst (v := nI 0) F d_M_changed_13 (by decide) ?_
    exact ret _ _ _ _ _ _ () d_M_changed_14 rfl (by decide) (by decide) rfl rfl

def rm_M_count : Room := { frames := 1, cells := 0, slots := 0, locals := 24 }
set_option maxHeartbeats 4000000 in
set_option maxRecDepth 100000 in
theorem ct_M_count (l : Launch) (D : va_G) (cA : ClassId) (m0 m1 m2 m3 m4 m5 m6 m7 m8 m9 m10 : Nat) (th now : Int32) (n : Nat) (rf : Int32) (X : AF) (sl tt sm hs lt : Nat → Int32) (hA0 : aok X n) (w : Int32) : Ci (S := Unit) l y_M_count (Cond.code y_M_count c_M_count 4 (some .int) :: WD) rm_M_count D vwCl [(cA, .int)] nws [.ref m0, .int w] [(m0, .inr (6, [.int th, .int now, .int (nI n), .int rf, .ref m1, .ref m2, .ref m3, .ref m4, .ref m5, .ref m6, .ref m7, .ref m8, .ref m9, .ref m10])), (m1, .inl (cA, 80, .inl (X 0))), (m2, .inl (cA, 80, .inl (X 1))), (m3, .inl (cA, 80, .inl (X 2))), (m4, .inl (cA, 80, .inl (X 3))), (m5, .inl (cA, 80, .inl (X 4))), (m6, .inl (cA, 20, .inl sl)), (m7, .inl (cA, 10, .inl tt)), (m8, .inl (cA, 10, .inl sm)), (m9, .inl (cA, 10, .inl hs)), (m10, .inl (cA, 64, .inl lt))] 0 0 (fun r _ => r = cntP X n now rf w) (fun _ => [(m0, .inr (6, [.int (nI 0), .int now, .int (nI n), .int rf, .ref m1, .ref m2, .ref m3, .ref m4, .ref m5, .ref m6, .ref m7, .ref m8, .ref m9, .ref m10])), (m1, .inl (cA, 80, .inl (X 0))), (m2, .inl (cA, 80, .inl (X 1))), (m3, .inl (cA, 80, .inl (X 2))), (m4, .inl (cA, 80, .inl (X 3))), (m5, .inl (cA, 80, .inl (X 4))), (m6, .inl (cA, 20, .inl sl)), (m7, .inl (cA, 10, .inl tt)), (m8, .inl (cA, 10, .inl sm)), (m9, .inl (cA, 10, .inl hs)), (m10, .inl (cA, 64, .inl lt))]) := by
  refine Ci.of (cc := c_M_count) (nL := 4) (lv := [(0, .ref m0), (1, .int w)]) (by decide) rfl (Nat.le_of_ble_eq_true rfl) rfl ?_
  intro p e s m args below meth cd A Q F hK hN hA ret
  have h80 := hA0.1
  refine j_aloadn F d_M_count_0 0 rfl rfl ?_
  refine j_iconst (v := nI 0) F d_M_count_1 (by decide) ?_
  refine j_put (ci := 6) (v := .int (nI 0)) (ty := .int) (ws' := [(m0, .inr (6, [.int (nI 0), .int now, .int (nI n), .int rf, .ref m1, .ref m2, .ref m3, .ref m4, .ref m5, .ref m6, .ref m7, .ref m8, .ref m9, .ref m10])), (m1, .inl (cA, 80, .inl (X 0))), (m2, .inl (cA, 80, .inl (X 1))), (m3, .inl (cA, 80, .inl (X 2))), (m4, .inl (cA, 80, .inl (X 3))), (m5, .inl (cA, 80, .inl (X 4))), (m6, .inl (cA, 20, .inl sl)), (m7, .inl (cA, 10, .inl tt)), (m8, .inl (cA, 10, .inl sm)), (m9, .inl (cA, 10, .inl hs)), (m10, .inl (cA, 64, .inl lt))]) F in_M ty_M tk_M nm_M hK 0 rfl rfl 0 (by decide) (wm k_466) rfl (by decide +kernel) rfl rfl (Nat.le_of_ble_eq_true rfl) d_M_count_2 rfl ?_
  refine j_iconst (v := nI 0) F d_M_count_5 (by decide) ?_
  refine j_istoren (lv' := [(2, .int (nI 0)), (0, .ref m0), (1, .int w)]) F d_M_count_6 rfl (by decide) rfl ?_
  refine j_iconst (v := nI 0) F d_M_count_7 (by decide) ?_
  refine j_istoren (lv' := [(3, .int (nI 0)), (2, .int (nI 0)), (0, .ref m0), (1, .int w)]) F d_M_count_8 rfl (by decide) rfl ?_
  have loop9 : ∀ (fuel : Nat) (i : Nat) (hfuel9 : n - i < fuel) (hi : i ≤ n), J p l e rm_M_count s m args below meth cd D vwCl A s.heap 4 0 0 Q [(m0, .inr (6, [.int (nI 0), .int now, .int (nI n), .int rf, .ref m1, .ref m2, .ref m3, .ref m4, .ref m5, .ref m6, .ref m7, .ref m8, .ref m9, .ref m10])), (m1, .inl (cA, 80, .inl (X 0))), (m2, .inl (cA, 80, .inl (X 1))), (m3, .inl (cA, 80, .inl (X 2))), (m4, .inl (cA, 80, .inl (X 3))), (m5, .inl (cA, 80, .inl (X 4))), (m6, .inl (cA, 20, .inl sl)), (m7, .inl (cA, 10, .inl tt)), (m8, .inl (cA, 10, .inl sm)), (m9, .inl (cA, 10, .inl hs)), (m10, .inl (cA, 64, .inl lt))] [(0, .ref m0), (1, .int w), (2, .int (nI (cntB (fun j => vdB X n j now) i))), (3, .int (nI i))] 9 [] := by
    intro fuel
    induction fuel with
    | zero => intro i hfuel; exact absurd hfuel (Nat.not_lt_zero _)
    | succ fuel ih9 =>
      intro i hfuel9 hi
      refine j_iloadn F d_M_count_9 3 rfl rfl ?_
      refine j_aloadn F d_M_count_10 0 rfl rfl ?_
      refine j_get (ci := 6) (v := .int (nI n)) F in_M hK 0 rfl rfl 2 (by decide) (wm k_468) rfl d_M_count_11 ?_
      refine j_ic_ge (tgt := 43) F d_M_count_14 (by decide) (fun c_14 => ?_) (fun c_14 => ?_)
      · have c_14 : n ≤ i := (nI_leI (by omega) (by omega)).mp c_14
        have hin : n = i := by omega
        subst hin
        refine j_iloadn F d_M_count_43 1 rfl rfl ?_
        refine j_if_ne (tgt := 54) F d_M_count_44 (by decide) (fun c_44 => ?_) (fun c_44 => ?_)
        · refine j_iloadn F d_M_count_54 1 rfl rfl ?_
          refine j_iconst (v := nI 1) F d_M_count_55 (by decide) ?_
          refine j_ic_ne (tgt := 66) F d_M_count_56 (by decide) (fun c_56 => ?_) (fun c_56 => ?_)
          · refine j_iloadn F d_M_count_66 1 rfl rfl ?_
            refine j_iconst (v := nI 2) F d_M_count_67 (by decide) ?_
            refine j_ic_ne (tgt := 78) F d_M_count_68 (by decide) (fun c_68 => ?_) (fun c_68 => ?_)
            · refine j_iloadn F d_M_count_78 1 rfl rfl ?_
              refine j_iconst (v := nI 3) F d_M_count_79 (by decide) ?_
              refine j_ic_ne (tgt := 87) F d_M_count_80 (by decide) (fun c_80 => ?_) (fun c_80 => ?_)
              · refine j_iconst (v := (-1)) F d_M_count_87 (by decide) ?_
                exact ret _ _ _ _ _ _ () d_M_count_88 rfl (by decide) (by decide) rfl (by unfold cntP; rw [if_neg c_44, if_neg c_56, if_neg c_68, if_neg c_80])
              · refine j_iloadn F d_M_count_83 2 rfl rfl ?_
                refine j_goto (tgt := 88) F d_M_count_84 (by decide) ?_
                exact ret _ _ _ _ _ _ () d_M_count_88 rfl (by decide) (by decide) rfl (by unfold cntP; rw [if_neg c_44, if_neg c_56, if_neg c_68, if_pos c_80])
            · refine j_aloadn F d_M_count_71 0 rfl rfl ?_
              refine j_get (ci := 6) (v := .int rf) F in_M hK 0 rfl rfl 3 (by decide) (wm k_469) rfl d_M_count_72 ?_
              refine j_goto (tgt := 88) F d_M_count_75 (by decide) ?_
              exact ret _ _ _ _ _ _ () d_M_count_88 rfl (by decide) (by decide) rfl (by unfold cntP; rw [if_neg c_44, if_neg c_56, if_pos c_68])
          · refine j_aloadn F d_M_count_59 0 rfl rfl ?_
            refine j_get (ci := 6) (v := .int now) F in_M hK 0 rfl rfl 1 (by decide) (wm k_467) rfl d_M_count_60 ?_
            refine j_goto (tgt := 88) F d_M_count_63 (by decide) ?_
            exact ret _ _ _ _ _ _ () d_M_count_88 rfl (by decide) (by decide) rfl (by unfold cntP; rw [if_neg c_44, if_pos c_56])
        · refine j_aloadn F d_M_count_47 0 rfl rfl ?_
          refine j_get (ci := 6) (v := .int (nI n)) F in_M hK 0 rfl rfl 2 (by decide) (wm k_468) rfl d_M_count_48 ?_
          refine j_goto (tgt := 88) F d_M_count_51 (by decide) ?_
          exact ret _ _ _ _ _ _ () d_M_count_88 rfl (by decide) (by decide) rfl (by unfold cntP; rw [if_pos c_44])
      · have c_14 : ¬ n ≤ i := fun h => c_14 ((nI_leI (by omega) (by omega)).mpr h)
        refine j_iloadn F d_M_count_17 2 rfl rfl ?_
        refine j_aloadn F d_M_count_18 0 rfl rfl ?_
        refine j_iloadn F d_M_count_19 3 rfl rfl ?_
        refine j_aloadn F d_M_count_20 0 rfl rfl ?_
        refine j_get (ci := 6) (v := .int now) F in_M hK 0 rfl rfl 1 (by decide) (wm k_467) rfl d_M_count_21 ?_
        refine j_goi (wc := [(m0, .inr (6, [.int (nI 0), .int now, .int (nI n), .int rf, .ref m1, .ref m2, .ref m3, .ref m4, .ref m5, .ref m6, .ref m7, .ref m8, .ref m9, .ref m10])), (m1, .inl (cA, 80, .inl (X 0))), (m2, .inl (cA, 80, .inl (X 1))), (m3, .inl (cA, 80, .inl (X 2))), (m4, .inl (cA, 80, .inl (X 3))), (m5, .inl (cA, 80, .inl (X 4))), (m6, .inl (cA, 20, .inl sl)), (m7, .inl (cA, 10, .inl tt)), (m8, .inl (cA, 10, .inl sm)), (m9, .inl (cA, 10, .inl hs)), (m10, .inl (cA, 64, .inl lt))]) (wr := []) hA [0, 1, 2, 3, 4, 5, 6, 7, 8, 9, 10] [] rfl rfl (by decide) (by decide) (fun H locs ls hP hD hl => va_runV (As := [.int (nI i), .int now]) (rest := [.int (nI (cntB (fun j => vdB X n j now) i))]) F (ct_M_isVoid l D cA m0 m1 m2 m3 m4 m5 m6 m7 m8 m9 m10 (nI 0) now n rf X sl tt sm hs lt hA0 i (by omega) now  H.size) ⟨callB_of 2 F.2.2.2.2 (gd k_556) rfl rfl rfl (F.2.2.2.2 _ (wm k_7)) (F.2.2.2.2 _ (wm k_553)) (by decide +kernel) ⟨by decide, by decide⟩, F.2.2.2.2 _ (wm k_555), F.2.2.2.2 _ (wm ks_30)⟩ (pre_V rfl hK hN hP hD [0, 1, 2, 3, 4, 5, 6, 7, 8, 9, 10] rfl (by decide) 0 rfl rfl) rfl rfl hl.1 rfl (lv_room (Nat.le_of_ble_eq_true rfl)) d_M_count_24 ⟨by decide, by decide⟩) (fun r24 u24 hw24 => ?_)
        subst hw24
        refine j_ws (ws' := [(m0, .inr (6, [.int (nI 0), .int now, .int (nI n), .int rf, .ref m1, .ref m2, .ref m3, .ref m4, .ref m5, .ref m6, .ref m7, .ref m8, .ref m9, .ref m10])), (m1, .inl (cA, 80, .inl (X 0))), (m2, .inl (cA, 80, .inl (X 1))), (m3, .inl (cA, 80, .inl (X 2))), (m4, .inl (cA, 80, .inl (X 3))), (m5, .inl (cA, 80, .inl (X 4))), (m6, .inl (cA, 20, .inl sl)), (m7, .inl (cA, 10, .inl tt)), (m8, .inl (cA, 10, .inl sm)), (m9, .inl (cA, 10, .inl hs)), (m10, .inl (cA, 64, .inl lt))]) [0, 1, 2, 3, 4, 5, 6, 7, 8, 9, 10] (by decide) rfl ?_
        refine j_if_eq (tgt := 34) F d_M_count_27 (by decide) (fun c_27 => ?_) (fun c_27 => ?_)
        · refine j_iconst (v := nI 0) F d_M_count_34 (by decide) ?_
          refine j_iadd (v := nI (cntB (fun j => vdB X n j now) (i + 1))) F d_M_count_35 (by rw [nI_add, cntB_f (p := fun j => vdB X n j now) (bI_0 c_27), Nat.add_zero]) ?_
          refine j_istoren (lv' := [(2, .int (nI (cntB (fun j => vdB X n j now) (i + 1)))), (0, .ref m0), (1, .int w), (3, .int (nI i))]) F d_M_count_36 rfl (by decide) rfl ?_
          refine j_iinc (v := nI (i + 1)) (lv' := [(3, .int (nI (i + 1))), (2, .int (nI (cntB (fun j => vdB X n j now) (i + 1)))), (0, .ref m0), (1, .int w)]) F d_M_count_37 3 rfl (jn_inc i) (by decide) rfl ?_
          refine j_goto (tgt := 9) F d_M_count_40 (by decide) ?_
          refine j_lv (lv' := [(0, .ref m0), (1, .int w), (2, .int (nI (cntB (fun j => vdB X n j now) (i + 1)))), (3, .int (nI (i + 1)))]) [2, 3, 1, 0] rfl ?_
          exact ih9 (i + 1) (by omega) (by omega)
        · refine j_iconst (v := nI 1) F d_M_count_30 (by decide) ?_
          refine j_goto (tgt := 35) F d_M_count_31 (by decide) ?_
          refine j_iadd (v := nI (cntB (fun j => vdB X n j now) (i + 1))) F d_M_count_35 (by rw [nI_add, cntB_t (p := fun j => vdB X n j now) (bI_1 c_27)]) ?_
          refine j_istoren (lv' := [(2, .int (nI (cntB (fun j => vdB X n j now) (i + 1)))), (0, .ref m0), (1, .int w), (3, .int (nI i))]) F d_M_count_36 rfl (by decide) rfl ?_
          refine j_iinc (v := nI (i + 1)) (lv' := [(3, .int (nI (i + 1))), (2, .int (nI (cntB (fun j => vdB X n j now) (i + 1)))), (0, .ref m0), (1, .int w)]) F d_M_count_37 3 rfl (jn_inc i) (by decide) rfl ?_
          refine j_goto (tgt := 9) F d_M_count_40 (by decide) ?_
          refine j_lv (lv' := [(0, .ref m0), (1, .int w), (2, .int (nI (cntB (fun j => vdB X n j now) (i + 1)))), (3, .int (nI (i + 1)))]) [2, 3, 1, 0] rfl ?_
          exact ih9 (i + 1) (by omega) (by omega)
  refine j_lv (lv' := [(0, .ref m0), (1, .int w), (2, .int (nI 0)), (3, .int (nI 0))]) [2, 3, 1, 0] rfl ?_
  exact loop9 (n + 1) 0 (by omega) (by omega)
