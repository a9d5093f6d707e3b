def rm_M_asks : Room := { frames := 2, cells := 0, slots := 0, locals := 47 }
set_option maxHeartbeats 4000000 in
set_option maxRecDepth 100000 in
theorem ct_M_asks (l : Launch) (D : va_G) (cA : ClassId) (m0 m1 m2 m3 m4 m5 m6 m7 m8 m9 m10 : Nat) (th now : Int32) (n : Nat) (rf : Int32) (X : AF) (sl tt sm hs lt : Nat → Int32) (hA0 : aok X n) (e0 : Nat) (he0 : e0 < n) (v t k : Int32) : Ci (S := Unit) l y_M_asks (Cond.code y_M_asks c_M_asks 5 (some .boolean) :: WD) rm_M_asks D vwCl [(cA, .int)] nws [.ref m0, .int (nI e0), .int v, .int t, .int k] [(m0, .inr (6, [.int th, .int now, .int (nI n), .int rf, .ref m1, .ref m2, .ref m3, .ref m4, .ref m5, .ref m6, .ref m7, .ref m8, .ref m9, .ref m10])), (m1, .inl (cA, 80, .inl (X 0))), (m2, .inl (cA, 80, .inl (X 1))), (m3, .inl (cA, 80, .inl (X 2))), (m4, .inl (cA, 80, .inl (X 3))), (m5, .inl (cA, 80, .inl (X 4))), (m6, .inl (cA, 20, .inl sl)), (m7, .inl (cA, 10, .inl tt)), (m8, .inl (cA, 10, .inl sm)), (m9, .inl (cA, 10, .inl hs)), (m10, .inl (cA, 64, .inl lt))] 0 0 (fun r _ => r = bI (asB X n t k v e0)) (fun _ => [(m0, .inr (6, [.int th, .int now, .int (nI n), .int rf, .ref m1, .ref m2, .ref m3, .ref m4, .ref m5, .ref m6, .ref m7, .ref m8, .ref m9, .ref m10])), (m1, .inl (cA, 80, .inl (X 0))), (m2, .inl (cA, 80, .inl (X 1))), (m3, .inl (cA, 80, .inl (X 2))), (m4, .inl (cA, 80, .inl (X 3))), (m5, .inl (cA, 80, .inl (X 4))), (m6, .inl (cA, 20, .inl sl)), (m7, .inl (cA, 10, .inl tt)), (m8, .inl (cA, 10, .inl sm)), (m9, .inl (cA, 10, .inl hs)), (m10, .inl (cA, 64, .inl lt))]) := by
  refine Ci.of (cc := c_M_asks) (nL := 5) (lv := [(0, .ref m0), (1, .int (nI e0)), (2, .int v), (3, .int t), (4, .int k)]) (by decide) rfl (Nat.le_of_ble_eq_true rfl) rfl ?_
  intro p e s m args below meth cd A Q F hK hN hA ret
  have h80 := hA0.1
  refine j_aloadn F d_M_asks_0 0 rfl rfl ?_
  refine j_get (ci := 6) (v := .ref m1) F in_M hK 0 rfl rfl 4 (by decide) (wm k_470) rfl d_M_asks_1 ?_
  refine j_iloadn F d_M_asks_4 1 rfl rfl ?_
  refine j_iald (v := (X 0) e0) F hK 1 0 rfl rfl (by omega) (by decide) d_M_asks_5 rfl ?_
  refine j_iconst (v := nI 4) F d_M_asks_6 (by decide) ?_
  refine j_ic_ne (tgt := 35) F d_M_asks_7 (by decide) (fun c_7 => ?_) (fun c_7 => ?_)
  · refine j_iconst (v := nI 0) F d_M_asks_35 (by decide) ?_
    exact ret _ _ _ _ _ _ () d_M_asks_36 rfl (by decide) (by decide) rfl (bI_f (by unfold asB; rw [decide_eq_false c_7]; rfl))
  · refine j_aloadn F d_M_asks_10 0 rfl rfl ?_
    refine j_get (ci := 6) (v := .ref m4) F in_M hK 0 rfl rfl 7 (by decide) (wm k_473) rfl d_M_asks_11 ?_
    refine j_iloadn F d_M_asks_14 1 rfl rfl ?_
    refine j_iald (v := (X 3) e0) F hK 4 0 rfl rfl (by omega) (by decide) d_M_asks_15 rfl ?_
    refine j_iloadn F d_M_asks_16 2 rfl rfl ?_
    refine j_ic_ne (tgt := 35) F d_M_asks_17 (by decide) (fun c_17 => ?_) (fun c_17 => ?_)
    · refine j_iconst (v := nI 0) F d_M_asks_35 (by decide) ?_
      exact ret _ _ _ _ _ _ () d_M_asks_36 rfl (by decide) (by decide) rfl (bI_f (by unfold asB; rw [decide_eq_false c_17, Bool.false_and, Bool.and_false]))
    · refine j_aloadn F d_M_asks_20 0 rfl rfl ?_
      refine j_iloadn F d_M_asks_21 1 rfl rfl ?_
      refine j_iloadn F d_M_asks_22 3 rfl rfl ?_
      refine j_iload F d_M_asks_23 4 rfl ?_
      refine j_goi (wc := [(m0, .inr (6, [.int th, .int now, .int (nI n), .int rf, .ref m1, .ref m2, .ref m3, .ref m4, .ref m5, .ref m6, .ref m7, .ref m8, .ref m9, .ref m10])), (m1, .inl (cA, 80, .inl (X 0))), (m2, .inl (cA, 80, .inl (X 1))), (m3, .inl (cA, 80, .inl (X 2))), (m4, .inl (cA, 80, .inl (X 3))), (m5, .inl (cA, 80, .inl (X 4))), (m6, .inl (cA, 20, .inl sl)), (m7, .inl (cA, 10, .inl tt)), (m8, .inl (cA, 10, .inl sm)), (m9, .inl (cA, 10, .inl hs)), (m10, .inl (cA, 64, .inl lt))]) (wr := []) hA [0, 1, 2, 3, 4, 5, 6, 7, 8, 9, 10] [] rfl rfl (by decide) (by decide) (fun H locs ls hP hD hl => va_runV (As := [.int (nI e0), .int t, .int k]) (rest := []) F (ct_M_counts l D cA m0 m1 m2 m3 m4 m5 m6 m7 m8 m9 m10 th now n rf X sl tt sm hs lt hA0 e0 (by omega) t k  H.size) ⟨callB_of 3 F.2.2.2.2 (gd k_552) rfl rfl rfl (F.2.2.2.2 _ (wm k_7)) (F.2.2.2.2 _ (wm k_549)) (by decide +kernel) ⟨by decide, by decide⟩, F.2.2.2.2 _ (wm k_551), F.2.2.2.2 _ (wm ks_29)⟩ (pre_V rfl hK hN hP hD [0, 1, 2, 3, 4, 5, 6, 7, 8, 9, 10] rfl (by decide) 0 rfl rfl) rfl rfl hl.1 rfl (lv_room (Nat.le_of_ble_eq_true rfl)) d_M_asks_25 ⟨by decide, by decide⟩) (fun r25 u25 hw25 => ?_)
      subst hw25
      refine j_ws (ws' := [(m0, .inr (6, [.int th, .int now, .int (nI n), .int rf, .ref m1, .ref m2, .ref m3, .ref m4, .ref m5, .ref m6, .ref m7, .ref m8, .ref m9, .ref m10])), (m1, .inl (cA, 80, .inl (X 0))), (m2, .inl (cA, 80, .inl (X 1))), (m3, .inl (cA, 80, .inl (X 2))), (m4, .inl (cA, 80, .inl (X 3))), (m5, .inl (cA, 80, .inl (X 4))), (m6, .inl (cA, 20, .inl sl)), (m7, .inl (cA, 10, .inl tt)), (m8, .inl (cA, 10, .inl sm)), (m9, .inl (cA, 10, .inl hs)), (m10, .inl (cA, 64, .inl lt))]) [0, 1, 2, 3, 4, 5, 6, 7, 8, 9, 10] (by decide) rfl ?_
      refine j_if_eq (tgt := 35) F d_M_asks_28 (by decide) (fun c_28 => ?_) (fun c_28 => ?_)
      · refine j_iconst (v := nI 0) F d_M_asks_35 (by decide) ?_
        exact ret _ _ _ _ _ _ () d_M_asks_36 rfl (by decide) (by decide) rfl (bI_f (by unfold asB; rw [bI_0 c_28, Bool.and_false, Bool.and_false]))
      · refine j_iconst (v := nI 1) F d_M_asks_31 (by decide) ?_
        refine j_goto (tgt := 36) F d_M_asks_32 (by decide) ?_
        exact ret _ _ _ _ _ _ () d_M_asks_36 rfl (by decide) (by decide) rfl (bI_t (asB_of c_7 c_17 (bI_1 c_28)))

def rm_M_serves : Room := { frames := 3, cells := 0, slots := 0, locals := 71 }
set_option maxHeartbeats 4000000 in
set_option maxRecDepth 100000 in
theorem ct_M_serves (l : Launch) (D : va_G) (cA : ClassId) (m0 m1 m2 m3 m4 m5 m6 m7 m8 m9 m10 : Nat) (th now : Int32) (n : Nat) (rf : Int32) (X : AF) (sl tt sm hs lt : Nat → Int32) (hA0 : aok X n) (v : Int32) (lf : Nat) (hlf : lf ≤ 1000) (t k : Int32) : Ci (S := Unit) l y_M_serves (Cond.code y_M_serves c_M_serves 9 (some .int) :: WD) rm_M_serves D vwCl [(cA, .int)] nws [.ref m0, .int v, .int (nI lf), .int t, .int k] [(m0, .inr (6, [.int th, .int now, .int (nI n), .int rf, .ref m1, .ref m2, .ref m3, .ref m4, .ref m5, .ref m6, .ref m7, .ref m8, .ref m9, .ref m10])), (m1, .inl (cA, 80, .inl (X 0))), (m2, .inl (cA, 80, .inl (X 1))), (m3, .inl (cA, 80, .inl (X 2))), (m4, .inl (cA, 80, .inl (X 3))), (m5, .inl (cA, 80, .inl (X 4))), (m6, .inl (cA, 20, .inl sl)), (m7, .inl (cA, 10, .inl tt)), (m8, .inl (cA, 10, .inl sm)), (m9, .inl (cA, 10, .inl hs)), (m10, .inl (cA, 64, .inl lt))] 0 0 (fun r _ => r = nI (rlf X n t k v lf)) (fun _ => [(m0, .inr (6, [.int th, .int now, .int (nI n), .int rf, .ref m1, .ref m2, .ref m3, .ref m4, .ref m5, .ref m6, .ref m7, .ref m8, .ref m9, .ref m10])), (m1, .inl (cA, 80, .inl (X 0))), (m2, .inl (cA, 80, .inl (X 1))), (m3, .inl (cA, 80, .inl (X 2))), (m4, .inl (cA, 80, .inl (X 3))), (m5, .inl (cA, 80, .inl (X 4))), (m6, .inl (cA, 20, .inl sl)), (m7, .inl (cA, 10, .inl tt)), (m8, .inl (cA, 10, .inl sm)), (m9, .inl (cA, 10, .inl (rhs X n t k v lf hs))), (m10, .inl (cA, 64, .inl lt))]) := by
  refine Ci.of (cc := c_M_serves) (nL := 9) (lv := [(0, .ref m0), (1, .int v), (2, .int (nI lf)), (3, .int t), (4, .int k)]) (by decide) rfl (Nat.le_of_ble_eq_true rfl) rfl ?_
  intro p e s m args below meth cd A Q F hK hN hA ret
  have h80 := hA0.1
  refine j_iconst (v := nI 0) F d_M_serves_0 (by decide) ?_
  refine j_istore (lv' := [(5, .int (nI 0)), (0, .ref m0), (1, .int v), (2, .int (nI lf)), (3, .int t), (4, .int k)]) F d_M_serves_1 (by decide) rfl ?_
  refine j_iconst (v := nI 0) F d_M_serves_3 (by decide) ?_
  refine j_istore (lv' := [(6, .int (nI 0)), (5, .int (nI 0)), (0, .ref m0), (1, .int v), (2, .int (nI lf)), (3, .int t), (4, .int k)]) F d_M_serves_4 (by decide) rfl ?_
  have loop6 : ∀ (fuel : Nat) (i : Nat) (hfuel6 : n - i < fuel) (hi : i ≤ n), J p l e rm_M_serves s m args below meth cd D vwCl A s.heap 9 0 0 Q [(m0, .inr (6, [.int th, .int now, .int (nI n), .int rf, .ref m1, .ref m2, .ref m3, .ref m4, .ref m5, .ref m6, .ref m7, .ref m8, .ref m9, .ref m10])), (m1, .inl (cA, 80, .inl (X 0))), (m2, .inl (cA, 80, .inl (X 1))), (m3, .inl (cA, 80, .inl (X 2))), (m4, .inl (cA, 80, .inl (X 3))), (m5, .inl (cA, 80, .inl (X 4))), (m6, .inl (cA, 20, .inl sl)), (m7, .inl (cA, 10, .inl tt)), (m8, .inl (cA, 10, .inl sm)), (m9, .inl (cA, 10, .inl hs)), (m10, .inl (cA, 64, .inl lt))] [(0, .ref m0), (1, .int v), (2, .int (nI lf)), (3, .int t), (4, .int k), (5, .int (nI (rwan X n t k v i))), (6, .int (nI i))] 6 [] := by
    intro fuel
    induction fuel with
    | zero => intro i hfuel; exact absurd hfuel (Nat.not_lt_zero _)
    | succ fuel ih6 =>
      intro i hfuel6 hi
      have hwi := rwan_le hA0 t k v (c := i) hi
      refine j_iload F d_M_serves_6 6 rfl ?_
      refine j_aloadn F d_M_serves_8 0 rfl rfl ?_
      refine j_get (ci := 6) (v := .int (nI n)) F in_M hK 0 rfl rfl 2 (by decide) (wm k_468) rfl d_M_serves_9 ?_
      refine j_ic_ge (tgt := 50) F d_M_serves_12 (by decide) (fun c_12 => ?_) (fun c_12 => ?_)
      · have c_12 : n ≤ i := (nI_leI (by omega) (by omega)).mp c_12
        have hin : n = i := by omega
        subst hin
        have hwn := rwan_le hA0 t k v (c := n) (Nat.le_refl _)
        refine j_iconst (v := nI 0) F d_M_serves_50 (by decide) ?_
        refine j_istore (lv' := [(6, .int (nI 0)), (0, .ref m0), (1, .int v), (2, .int (nI lf)), (3, .int t), (4, .int k), (5, .int (nI (rwan X n t k v n)))]) F d_M_serves_51 (by decide) rfl ?_
        refine j_iconst (v := nI 0) F d_M_serves_53 (by decide) ?_
        refine j_istore (lv' := [(7, .int (nI 0)), (6, .int (nI 0)), (0, .ref m0), (1, .int v), (2, .int (nI lf)), (3, .int t), (4, .int k), (5, .int (nI (rwan X n t k v n)))]) F d_M_serves_54 (by decide) rfl ?_
        have loop56 : ∀ (fuel : Nat) (i : Nat) (hfuel56 : n - i < fuel) (hi : i ≤ n), J p l e rm_M_serves s m args below meth cd D vwCl A s.heap 9 0 0 Q [(m0, .inr (6, [.int th, .int now, .int (nI n), .int rf, .ref m1, .ref m2, .ref m3, .ref m4, .ref m5, .ref m6, .ref m7, .ref m8, .ref m9, .ref m10])), (m1, .inl (cA, 80, .inl (X 0))), (m2, .inl (cA, 80, .inl (X 1))), (m3, .inl (cA, 80, .inl (X 2))), (m4, .inl (cA, 80, .inl (X 3))), (m5, .inl (cA, 80, .inl (X 4))), (m6, .inl (cA, 20, .inl sl)), (m7, .inl (cA, 10, .inl tt)), (m8, .inl (cA, 10, .inl sm)), (m9, .inl (cA, 10, .inl hs)), (m10, .inl (cA, 64, .inl lt))] [(0, .ref m0), (1, .int v), (2, .int (nI lf)), (3, .int t), (4, .int k), (5, .int (nI (rwan X n t k v n))), (6, .int (nI (rspn X n t k v lf (rwan X n t k v n) i))), (7, .int (nI i))] 56 [] := by
          intro fuel
          induction fuel with
          | zero => intro i hfuel; exact absurd hfuel (Nat.not_lt_zero _)
          | succ fuel ih56 =>
            intro i hfuel56 hi
            have hsi := rspn_b hA0 t k v (lf := lf) (w := rwan X n t k v n) (c := i) hi hlf
            refine j_iload F d_M_serves_56 7 rfl ?_
            refine j_aloadn F d_M_serves_58 0 rfl rfl ?_
            refine j_get (ci := 6) (v := .int (nI n)) F in_M hK 0 rfl rfl 2 (by decide) (wm k_468) rfl d_M_serves_59 ?_
            refine j_ic_ge (tgt := 121) F d_M_serves_62 (by decide) (fun c_62 => ?_) (fun c_62 => ?_)
            · have c_62 : n ≤ i := (nI_leI (by omega) (by omega)).mp c_62
              have hin : n = i := by omega
              subst hin
              refine j_iload F d_M_serves_121 5 rfl ?_
              refine j_iloadn F d_M_serves_123 2 rfl rfl ?_
              refine j_ic_gt (tgt := 131) F d_M_serves_124 (by decide) (fun c_124 => ?_) (fun c_124 => ?_)
              · have c_124 : lf < (rwan X n t k v n) := (nI_ltI (by omega) (by omega)).mp c_124
                have hrl := rspn_le t k v lf n (Nat.le_refl _) (show ¬ rwan X n t k v n ≤ lf by omega)
                refine j_iloadn F d_M_serves_131 2 rfl rfl ?_
                refine j_iload F d_M_serves_132 6 rfl ?_
                refine j_isub (v := nI (lf - (rspn X n t k v lf (rwan X n t k v n) n))) F d_M_serves_134 (pk_sub (by omega)) ?_
                refine j_top (y := nI (rmo X n t k v lf)) (by unfold rmo; rw [if_neg (by omega)]) ?_
                refine j_istore (lv' := [(7, .int (nI (rmo X n t k v lf))), (0, .ref m0), (1, .int v), (2, .int (nI lf)), (3, .int t), (4, .int k), (5, .int (nI (rwan X n t k v n))), (6, .int (nI (rspn X n t k v lf (rwan X n t k v n) n)))]) F d_M_serves_135 (by decide) rfl ?_
                refine j_iconst (v := nI 0) F d_M_serves_137 (by decide) ?_
                refine j_istore (lv' := [(8, .int (nI 0)), (7, .int (nI (rmo X n t k v lf))), (0, .ref m0), (1, .int v), (2, .int (nI lf)), (3, .int t), (4, .int k), (5, .int (nI (rwan X n t k v n))), (6, .int (nI (rspn X n t k v lf (rwan X n t k v n) n)))]) F d_M_serves_138 (by decide) rfl ?_
                have loop140 : ∀ (fuel : Nat) (i : Nat) (hfuel140 : n - i < fuel) (hi : i ≤ n), J p l e rm_M_serves s m args below meth cd D vwCl A s.heap 9 0 0 Q [(m0, .inr (6, [.int th, .int now, .int (nI n), .int rf, .ref m1, .ref m2, .ref m3, .ref m4, .ref m5, .ref m6, .ref m7, .ref m8, .ref m9, .ref m10])), (m1, .inl (cA, 80, .inl (X 0))), (m2, .inl (cA, 80, .inl (X 1))), (m3, .inl (cA, 80, .inl (X 2))), (m4, .inl (cA, 80, .inl (X 3))), (m5, .inl (cA, 80, .inl (X 4))), (m6, .inl (cA, 20, .inl sl)), (m7, .inl (cA, 10, .inl tt)), (m8, .inl (cA, 10, .inl sm)), (m9, .inl (cA, 10, .inl (accF hs (aN X) (rwt X n t k v lf (rwan X n t k v n) (rmo X n t k v lf)) i))), (m10, .inl (cA, 64, .inl lt))] [(0, .ref m0), (1, .int v), (2, .int (nI lf)), (3, .int t), (4, .int k), (5, .int (nI (rwan X n t k v n))), (6, .int (nI (rspn X n t k v lf (rwan X n t k v n) n))), (7, .int (nI (rmo X n t k v lf - cntB (asB X n t k v) i))), (8, .int (nI i))] 140 [] := by
                  intro fuel
                  induction fuel with
                  | zero => intro i hfuel; exact absurd hfuel (Nat.not_lt_zero _)
                  | succ fuel ih140 =>
                    intro i hfuel140 hi
                    have hcl := cntB_le (asB X n t k v) i
                    have hmo : rmo X n t k v lf ≤ 1000 := by unfold rmo; split <;> omega
                    refine j_iload F d_M_serves_140 8 rfl ?_
                    refine j_aloadn F d_M_serves_142 0 rfl rfl ?_
                    refine j_get (ci := 6) (v := .int (nI n)) F in_M hK 0 rfl rfl 2 (by decide) (wm k_468) rfl d_M_serves_143 ?_
                    refine j_ic_ge (tgt := 237) F d_M_serves_146 (by decide) (fun c_146 => ?_) (fun c_146 => ?_)
                    · have c_146 : n ≤ i := (nI_leI (by omega) (by omega)).mp c_146
                      have hin : n = i := by omega
                      subst hin
                      refine j_iload F d_M_serves_237 5 rfl ?_
                      refine j_iloadn F d_M_serves_239 2 rfl rfl ?_
                      refine j_ic_gt (tgt := 250) F d_M_serves_240 (by decide) (fun c_240 => ?_) (fun c_240 => ?_)
                      · have c_240 : lf < (rwan X n t k v n) := (nI_ltI (by omega) (by omega)).mp c_240
                        refine j_iconst (v := nI 0) F d_M_serves_250 (by decide) ?_
                        exact ret _ _ _ _ _ _ () d_M_serves_251 rfl (by decide) (by decide) rfl (by unfold rlf; rw [if_neg (by omega)])
                      · have c_240 : ¬ lf < (rwan X n t k v n) := fun h => c_240 ((nI_ltI (by omega) (by omega)).mpr h)
                        refine j_iloadn F d_M_serves_243 2 rfl rfl ?_
                        refine j_iload F d_M_serves_244 5 rfl ?_
                        refine j_isub (v := nI (lf - (rwan X n t k v n))) F d_M_serves_246 (pk_sub (by omega)) ?_
                        refine j_goto (tgt := 251) F d_M_serves_247 (by decide) ?_
                        exact ret _ _ _ _ _ _ () d_M_serves_251 rfl (by decide) (by decide) rfl (by unfold rlf; rw [if_pos (by omega)])
                    · have c_146 : ¬ n ≤ i := fun h => c_146 ((nI_leI (by omega) (by omega)).mpr h)
                      refine j_aloadn F d_M_serves_149 0 rfl rfl ?_
                      refine j_iload F d_M_serves_150 8 rfl ?_
                      refine j_iloadn F d_M_serves_152 1 rfl rfl ?_
                      refine j_iloadn F d_M_serves_153 3 rfl rfl ?_
                      refine j_iload F d_M_serves_154 4 rfl ?_
                      refine j_goi (wc := [(m0, .inr (6, [.int th, .int now, .int (nI n), .int rf, .ref m1, .ref m2, .ref m3, .ref m4, .ref m5, .ref m6, .ref m7, .ref m8, .ref m9, .ref m10])), (m1, .inl (cA, 80, .inl (X 0))), (m2, .inl (cA, 80, .inl (X 1))), (m3, .inl (cA, 80, .inl (X 2))), (m4, .inl (cA, 80, .inl (X 3))), (m5, .inl (cA, 80, .inl (X 4))), (m6, .inl (cA, 20, .inl sl)), (m7, .inl (cA, 10, .inl tt)), (m8, .inl (cA, 10, .inl sm)), (m9, .inl (cA, 10, .inl (accF hs (aN X) (rwt X n t k v lf (rwan X n t k v n) (rmo X n t k v lf)) i))), (m10, .inl (cA, 64, .inl lt))]) (wr := []) hA [0, 1, 2, 3, 4, 5, 6, 7, 8, 9, 10] [] rfl rfl (by decide) (by decide) (fun H locs ls hP hD hl => va_runV (As := [.int (nI i), .int v, .int t, .int k]) (rest := []) F (ct_M_asks l D cA m0 m1 m2 m3 m4 m5 m6 m7 m8 m9 m10 th now n rf X sl tt sm (accF hs (aN X) (rwt X n t k v lf (rwan X n t k v n) (rmo X n t k v lf)) i) lt hA0 i (by omega) v t k  H.size) ⟨callB_of 4 F.2.2.2.2 (gd k_592) rfl rfl rfl (F.2.2.2.2 _ (wm k_7)) (F.2.2.2.2 _ (wm k_589)) (by decide +kernel) ⟨by decide, by decide⟩, F.2.2.2.2 _ (wm k_591), F.2.2.2.2 _ (wm ks_35)⟩ (pre_V rfl hK hN hP hD [0, 1, 2, 3, 4, 5, 6, 7, 8, 9, 10] rfl (by decide) 0 rfl rfl) rfl rfl hl.1 rfl (lv_room (Nat.le_of_ble_eq_true rfl)) d_M_serves_156 ⟨by decide, by decide⟩) (fun r156 u156 hw156 => ?_)
                      subst hw156
                      refine j_ws (ws' := [(m0, .inr (6, [.int th, .int now, .int (nI n), .int rf, .ref m1, .ref m2, .ref m3, .ref m4, .ref m5, .ref m6, .ref m7, .ref m8, .ref m9, .ref m10])), (m1, .inl (cA, 80, .inl (X 0))), (m2, .inl (cA, 80, .inl (X 1))), (m3, .inl (cA, 80, .inl (X 2))), (m4, .inl (cA, 80, .inl (X 3))), (m5, .inl (cA, 80, .inl (X 4))), (m6, .inl (cA, 20, .inl sl)), (m7, .inl (cA, 10, .inl tt)), (m8, .inl (cA, 10, .inl sm)), (m9, .inl (cA, 10, .inl (accF hs (aN X) (rwt X n t k v lf (rwan X n t k v n) (rmo X n t k v lf)) i))), (m10, .inl (cA, 64, .inl lt))]) [0, 1, 2, 3, 4, 5, 6, 7, 8, 9, 10] (by decide) rfl ?_
                      refine j_if_eq (tgt := 231) F d_M_serves_159 (by decide) (fun c_159 => ?_) (fun c_159 => ?_)
                      · have hz0 : rwt X n t k v lf (rwan X n t k v n) (rmo X n t k v lf) i = 0 := by unfold rwt; rw [bI_0 c_159]; rfl
                        rw [← accF_z (g0 := hs) (al := aN X) hz0, ← cntB_f (p := asB X n t k v) (bI_0 c_159)]
                        refine j_iinc (v := nI (i + 1)) (lv' := [(8, .int (nI (i + 1))), (0, .ref m0), (1, .int v), (2, .int (nI lf)), (3, .int t), (4, .int k), (5, .int (nI (rwan X n t k v n))), (6, .int (nI (rspn X n t k v lf (rwan X n t k v n) n))), (7, .int (nI (rmo X n t k v lf - cntB (asB X n t k v) (i + 1))))]) F d_M_serves_231 8 rfl (jn_inc i) (by decide) rfl ?_
                        refine j_goto (tgt := 140) F d_M_serves_234 (by decide) ?_
                        refine j_lv (lv' := [(0, .ref m0), (1, .int v), (2, .int (nI lf)), (3, .int t), (4, .int k), (5, .int (nI (rwan X n t k v n))), (6, .int (nI (rspn X n t k v lf (rwan X n t k v n) n))), (7, .int (nI (rmo X n t k v lf - cntB (asB X n t k v) (i + 1)))), (8, .int (nI (i + 1)))]) [1, 2, 3, 4, 5, 6, 7, 8, 0] rfl ?_
                        exact ih140 (i + 1) (by omega) (by omega)
                      · have hask := bI_1 c_159
                        have hb1 := bN_eq (hA0.2 i (by omega)) (asB_ask hask).1
                        have ha1 := aN_eq (hA0.2 i (by omega)) (asB_ask hask).1
                        have hb12 := hb1.2
                        have ha12 := ha1.2
                        have hbl : bN X i * lf ≤ 1000 * 1000 := Nat.mul_le_mul hb1.2.2 hlf
                        refine j_aloadn F d_M_serves_162 0 rfl rfl ?_
                        refine j_get (ci := 6) (v := .ref m9) F in_M hK 0 rfl rfl 12 (by decide) (wm k_478) rfl d_M_serves_163 ?_
                        refine j_aloadn F d_M_serves_166 0 rfl rfl ?_
                        refine j_get (ci := 6) (v := .ref m2) F in_M hK 0 rfl rfl 5 (by decide) (wm k_471) rfl d_M_serves_167 ?_
                        refine j_iload F d_M_serves_170 8 rfl ?_
                        refine j_iald (v := nI (aN X i)) F hK 2 0 rfl rfl (by omega) (by decide) d_M_serves_172 ha1.1 ?_
                        refine j_dup2 F d_M_serves_173 rfl rfl ?_
                        refine j_iald (v := (accF hs (aN X) (rwt X n t k v lf (rwan X n t k v n) (rmo X n t k v lf)) i) (aN X i)) F hK 9 0 rfl rfl (by omega) (by decide) d_M_serves_174 rfl ?_
                        refine j_iload F d_M_serves_175 5 rfl ?_
                        refine j_iloadn F d_M_serves_177 2 rfl rfl ?_
                        refine j_ic_gt (tgt := 191) F d_M_serves_178 (by decide) (fun c_178 => ?_) (fun c_178 => ?_)
                        · have c_178 : lf < (rwan X n t k v n) := (nI_ltI (by omega) (by omega)).mp c_178
                          refine j_aloadn F d_M_serves_191 0 rfl rfl ?_
                          refine j_get (ci := 6) (v := .ref m3) F in_M hK 0 rfl rfl 6 (by decide) (wm k_472) rfl d_M_serves_192 ?_
                          refine j_iload F d_M_serves_195 8 rfl ?_
                          refine j_iald (v := nI (bN X i)) F hK 3 0 rfl rfl (by omega) (by decide) d_M_serves_197 hb1.1 ?_
                          refine j_iloadn F d_M_serves_198 2 rfl rfl ?_
                          refine j_imul (v := nI ((bN X i) * lf)) F d_M_serves_199 (pk_mul _ _) ?_
                          refine j_iload F d_M_serves_200 5 rfl ?_
                          refine j_idiv (v := nI (((bN X i) * lf) / (rwan X n t k v n))) F d_M_serves_202 (nI_ne0 (by omega) (by omega)) (pk_div (by omega) (by omega) (by omega)) ?_
                          refine j_iload F d_M_serves_203 7 rfl ?_
                          refine j_if_le (tgt := 212) F d_M_serves_205 (by decide) (fun c_205 => ?_) (fun c_205 => ?_)
                          · have c_205 : (rmo X n t k v lf - cntB (asB X n t k v) i) ≤ 0 := (nI_leI (by omega) (by omega)).mp c_205
                            refine j_iconst (v := nI 0) F d_M_serves_212 (by decide) ?_
                            refine j_iadd (v := nI (rwt X n t k v lf (rwan X n t k v n) (rmo X n t k v lf) i)) F d_M_serves_213 (by rw [nI_add]; unfold rwt shr; rw [hask, if_neg (show ¬ rwan X n t k v n ≤ lf by omega), if_neg (show ¬ cntB (asB X n t k v) i < rmo X n t k v lf by omega)]; rfl) ?_
                            refine j_iadd (v := ((accF hs (aN X) (rwt X n t k v lf (rwan X n t k v n) (rmo X n t k v lf)) i) (aN X i)) + (nI (rwt X n t k v lf (rwan X n t k v n) (rmo X n t k v lf) i))) F d_M_serves_214 rfl ?_
                            refine j_iast (ws' := [(m0, .inr (6, [.int th, .int now, .int (nI n), .int rf, .ref m1, .ref m2, .ref m3, .ref m4, .ref m5, .ref m6, .ref m7, .ref m8, .ref m9, .ref m10])), (m1, .inl (cA, 80, .inl (X 0))), (m2, .inl (cA, 80, .inl (X 1))), (m3, .inl (cA, 80, .inl (X 2))), (m4, .inl (cA, 80, .inl (X 3))), (m5, .inl (cA, 80, .inl (X 4))), (m6, .inl (cA, 20, .inl sl)), (m7, .inl (cA, 10, .inl tt)), (m8, .inl (cA, 10, .inl sm)), (m9, .inl (cA, 10, .inl (upd (accF hs (aN X) (rwt X n t k v lf (rwan X n t k v n) (rmo X n t k v lf)) i) (aN X i) (((accF hs (aN X) (rwt X n t k v lf (rwan X n t k v n) (rmo X n t k v lf)) i) (aN X i)) + (nI (rwt X n t k v lf (rwan X n t k v n) (rmo X n t k v lf) i)))))), (m10, .inl (cA, 64, .inl lt))]) F hK 9 0 rfl rfl (by omega) (by decide) d_M_serves_215 rfl ?_
                            refine j_ext (ws' := [(m0, .inr (6, [.int th, .int now, .int (nI n), .int rf, .ref m1, .ref m2, .ref m3, .ref m4, .ref m5, .ref m6, .ref m7, .ref m8, .ref m9, .ref m10])), (m1, .inl (cA, 80, .inl (X 0))), (m2, .inl (cA, 80, .inl (X 1))), (m3, .inl (cA, 80, .inl (X 2))), (m4, .inl (cA, 80, .inl (X 3))), (m5, .inl (cA, 80, .inl (X 4))), (m6, .inl (cA, 20, .inl sl)), (m7, .inl (cA, 10, .inl tt)), (m8, .inl (cA, 10, .inl sm)), (m9, .inl (cA, 10, .inl (accF hs (aN X) (rwt X n t k v lf (rwan X n t k v n) (rmo X n t k v lf)) (i + 1)))), (m10, .inl (cA, 64, .inl lt))]) 9 (g := accF hs (aN X) (rwt X n t k v lf (rwan X n t k v n) (rmo X n t k v lf)) (i + 1)) rfl (fun i9 _ => congrFun (accF_s hs (aN X) (rwt X n t k v lf (rwan X n t k v n) (rmo X n t k v lf)) i) i9) rfl ?_
                            refine j_iload F d_M_serves_216 7 rfl ?_
                            refine j_iload F d_M_serves_218 7 rfl ?_
                            refine j_if_le (tgt := 227) F d_M_serves_220 (by decide) (fun c_220 => ?_) (fun c_220 => ?_)
                            · have c_220 : (rmo X n t k v lf - cntB (asB X n t k v) i) ≤ 0 := (nI_leI (by omega) (by omega)).mp c_220
                              refine j_iconst (v := nI 0) F d_M_serves_227 (by decide) ?_
                              refine j_isub (v := nI (rmo X n t k v lf - cntB (asB X n t k v) (i + 1))) F d_M_serves_228 (by rw [pk_sub (by omega), cntB_t (p := asB X n t k v) hask]; first | done | exact congrArg nI (by omega)) ?_
                              refine j_istore (lv' := [(7, .int (nI (rmo X n t k v lf - cntB (asB X n t k v) (i + 1)))), (0, .ref m0), (1, .int v), (2, .int (nI lf)), (3, .int t), (4, .int k), (5, .int (nI (rwan X n t k v n))), (6, .int (nI (rspn X n t k v lf (rwan X n t k v n) n))), (8, .int (nI i))]) F d_M_serves_229 (by decide) rfl ?_
                              refine j_iinc (v := nI (i + 1)) (lv' := [(8, .int (nI (i + 1))), (7, .int (nI (rmo X n t k v lf - cntB (asB X n t k v) (i + 1)))), (0, .ref m0), (1, .int v), (2, .int (nI lf)), (3, .int t), (4, .int k), (5, .int (nI (rwan X n t k v n))), (6, .int (nI (rspn X n t k v lf (rwan X n t k v n) n)))]) F d_M_serves_231 8 rfl (jn_inc i) (by decide) rfl ?_
                              refine j_goto (tgt := 140) F d_M_serves_234 (by decide) ?_
                              refine j_lv (lv' := [(0, .ref m0), (1, .int v), (2, .int (nI lf)), (3, .int t), (4, .int k), (5, .int (nI (rwan X n t k v n))), (6, .int (nI (rspn X n t k v lf (rwan X n t k v n) n))), (7, .int (nI (rmo X n t k v lf - cntB (asB X n t k v) (i + 1)))), (8, .int (nI (i + 1)))]) [2, 3, 4, 5, 6, 7, 8, 1, 0] rfl ?_
                              exact ih140 (i + 1) (by omega) (by omega)
                            · have c_220 : ¬ (rmo X n t k v lf - cntB (asB X n t k v) i) ≤ 0 := fun h => c_220 ((nI_leI (by omega) (by omega)).mpr h)
                              exact absurd c_205 c_220
                          · have c_205 : ¬ (rmo X n t k v lf - cntB (asB X n t k v) i) ≤ 0 := fun h => c_205 ((nI_leI (by omega) (by omega)).mpr h)
                            refine j_iconst (v := nI 1) F d_M_serves_208 (by decide) ?_
                            refine j_goto (tgt := 213) F d_M_serves_209 (by decide) ?_
                            refine j_iadd (v := nI (rwt X n t k v lf (rwan X n t k v n) (rmo X n t k v lf) i)) F d_M_serves_213 (by rw [nI_add]; unfold rwt shr; rw [hask, if_neg (show ¬ rwan X n t k v n ≤ lf by omega), if_pos (show cntB (asB X n t k v) i < rmo X n t k v lf by omega)]; rfl) ?_
                            refine j_iadd (v := ((accF hs (aN X) (rwt X n t k v lf (rwan X n t k v n) (rmo X n t k v lf)) i) (aN X i)) + (nI (rwt X n t k v lf (rwan X n t k v n) (rmo X n t k v lf) i))) F d_M_serves_214 rfl ?_
                            refine j_iast (ws' := [(m0, .inr (6, [.int th, .int now, .int (nI n), .int rf, .ref m1, .ref m2, .ref m3, .ref m4, .ref m5, .ref m6, .ref m7, .ref m8, .ref m9, .ref m10])), (m1, .inl (cA, 80, .inl (X 0))), (m2, .inl (cA, 80, .inl (X 1))), (m3, .inl (cA, 80, .inl (X 2))), (m4, .inl (cA, 80, .inl (X 3))), (m5, .inl (cA, 80, .inl (X 4))), (m6, .inl (cA, 20, .inl sl)), (m7, .inl (cA, 10, .inl tt)), (m8, .inl (cA, 10, .inl sm)), (m9, .inl (cA, 10, .inl (upd (accF hs (aN X) (rwt X n t k v lf (rwan X n t k v n) (rmo X n t k v lf)) i) (aN X i) (((accF hs (aN X) (rwt X n t k v lf (rwan X n t k v n) (rmo X n t k v lf)) i) (aN X i)) + (nI (rwt X n t k v lf (rwan X n t k v n) (rmo X n t k v lf) i)))))), (m10, .inl (cA, 64, .inl lt))]) F hK 9 0 rfl rfl (by omega) (by decide) d_M_serves_215 rfl ?_
                            refine j_ext (ws' := [(m0, .inr (6, [.int th, .int now, .int (nI n), .int rf, .ref m1, .ref m2, .ref m3, .ref m4, .ref m5, .ref m6, .ref m7, .ref m8, .ref m9, .ref m10])), (m1, .inl (cA, 80, .inl (X 0))), (m2, .inl (cA, 80, .inl (X 1))), (m3, .inl (cA, 80, .inl (X 2))), (m4, .inl (cA, 80, .inl (X 3))), (m5, .inl (cA, 80, .inl (X 4))), (m6, .inl (cA, 20, .inl sl)), (m7, .inl (cA, 10, .inl tt)), (m8, .inl (cA, 10, .inl sm)), (m9, .inl (cA, 10, .inl (accF hs (aN X) (rwt X n t k v lf (rwan X n t k v n) (rmo X n t k v lf)) (i + 1)))), (m10, .inl (cA, 64, .inl lt))]) 9 (g := accF hs (aN X) (rwt X n t k v lf (rwan X n t k v n) (rmo X n t k v lf)) (i + 1)) rfl (fun i9 _ => congrFun (accF_s hs (aN X) (rwt X n t k v lf (rwan X n t k v n) (rmo X n t k v lf)) i) i9) rfl ?_
                            refine j_iload F d_M_serves_216 7 rfl ?_
                            refine j_iload F d_M_serves_218 7 rfl ?_
                            refine j_if_le (tgt := 227) F d_M_serves_220 (by decide) (fun c_220 => ?_) (fun c_220 => ?_)
                            · have c_220 : (rmo X n t k v lf - cntB (asB X n t k v) i) ≤ 0 := (nI_leI (by omega) (by omega)).mp c_220
                              exact absurd c_220 c_205
                            · have c_220 : ¬ (rmo X n t k v lf - cntB (asB X n t k v) i) ≤ 0 := fun h => c_220 ((nI_leI (by omega) (by omega)).mpr h)
                              refine j_iconst (v := nI 1) F d_M_serves_223 (by decide) ?_
                              refine j_goto (tgt := 228) F d_M_serves_224 (by decide) ?_
                              refine j_isub (v := nI (rmo X n t k v lf - cntB (asB X n t k v) (i + 1))) F d_M_serves_228 (by rw [pk_sub (by omega), cntB_t (p := asB X n t k v) hask]; first | done | exact congrArg nI (by omega)) ?_
                              refine j_istore (lv' := [(7, .int (nI (rmo X n t k v lf - cntB (asB X n t k v) (i + 1)))), (0, .ref m0), (1, .int v), (2, .int (nI lf)), (3, .int t), (4, .int k), (5, .int (nI (rwan X n t k v n))), (6, .int (nI (rspn X n t k v lf (rwan X n t k v n) n))), (8, .int (nI i))]) F d_M_serves_229 (by decide) rfl ?_
                              refine j_iinc (v := nI (i + 1)) (lv' := [(8, .int (nI (i + 1))), (7, .int (nI (rmo X n t k v lf - cntB (asB X n t k v) (i + 1)))), (0, .ref m0), (1, .int v), (2, .int (nI lf)), (3, .int t), (4, .int k), (5, .int (nI (rwan X n t k v n))), (6, .int (nI (rspn X n t k v lf (rwan X n t k v n) n)))]) F d_M_serves_231 8 rfl (jn_inc i) (by decide) rfl ?_
                              refine j_goto (tgt := 140) F d_M_serves_234 (by decide) ?_
                              refine j_lv (lv' := [(0, .ref m0), (1, .int v), (2, .int (nI lf)), (3, .int t), (4, .int k), (5, .int (nI (rwan X n t k v n))), (6, .int (nI (rspn X n t k v lf (rwan X n t k v n) n))), (7, .int (nI (rmo X n t k v lf - cntB (asB X n t k v) (i + 1)))), (8, .int (nI (i + 1)))]) [2, 3, 4, 5, 6, 7, 8, 1, 0] rfl ?_
                              exact ih140 (i + 1) (by omega) (by omega)
                        · have c_178 : ¬ lf < (rwan X n t k v n) := fun h => c_178 ((nI_ltI (by omega) (by omega)).mpr h)
                          refine j_aloadn F d_M_serves_181 0 rfl rfl ?_
                          refine j_get (ci := 6) (v := .ref m3) F in_M hK 0 rfl rfl 6 (by decide) (wm k_472) rfl d_M_serves_182 ?_
                          refine j_iload F d_M_serves_185 8 rfl ?_
                          refine j_iald (v := nI (bN X i)) F hK 3 0 rfl rfl (by omega) (by decide) d_M_serves_187 hb1.1 ?_
                          refine j_goto (tgt := 203) F d_M_serves_188 (by decide) ?_
                          refine j_iload F d_M_serves_203 7 rfl ?_
                          refine j_if_le (tgt := 212) F d_M_serves_205 (by decide) (fun c_205 => ?_) (fun c_205 => ?_)
                          · have c_205 : (rmo X n t k v lf - cntB (asB X n t k v) i) ≤ 0 := (nI_leI (by omega) (by omega)).mp c_205
                            refine j_iconst (v := nI 0) F d_M_serves_212 (by decide) ?_
                            refine j_iadd (v := nI (rwt X n t k v lf (rwan X n t k v n) (rmo X n t k v lf) i)) F d_M_serves_213 (by rw [nI_add]; unfold rwt shr; rw [hask, if_pos (show rwan X n t k v n ≤ lf by omega), if_neg (show ¬ cntB (asB X n t k v) i < rmo X n t k v lf by omega)]; rfl) ?_
                            refine j_iadd (v := ((accF hs (aN X) (rwt X n t k v lf (rwan X n t k v n) (rmo X n t k v lf)) i) (aN X i)) + (nI (rwt X n t k v lf (rwan X n t k v n) (rmo X n t k v lf) i))) F d_M_serves_214 rfl ?_
                            refine j_iast (ws' := [(m0, .inr (6, [.int th, .int now, .int (nI n), .int rf, .ref m1, .ref m2, .ref m3, .ref m4, .ref m5, .ref m6, .ref m7, .ref m8, .ref m9, .ref m10])), (m1, .inl (cA, 80, .inl (X 0))), (m2, .inl (cA, 80, .inl (X 1))), (m3, .inl (cA, 80, .inl (X 2))), (m4, .inl (cA, 80, .inl (X 3))), (m5, .inl (cA, 80, .inl (X 4))), (m6, .inl (cA, 20, .inl sl)), (m7, .inl (cA, 10, .inl tt)), (m8, .inl (cA, 10, .inl sm)), (m9, .inl (cA, 10, .inl (upd (accF hs (aN X) (rwt X n t k v lf (rwan X n t k v n) (rmo X n t k v lf)) i) (aN X i) (((accF hs (aN X) (rwt X n t k v lf (rwan X n t k v n) (rmo X n t k v lf)) i) (aN X i)) + (nI (rwt X n t k v lf (rwan X n t k v n) (rmo X n t k v lf) i)))))), (m10, .inl (cA, 64, .inl lt))]) F hK 9 0 rfl rfl (by omega) (by decide) d_M_serves_215 rfl ?_
                            refine j_ext (ws' := [(m0, .inr (6, [.int th, .int now, .int (nI n), .int rf, .ref m1, .ref m2, .ref m3, .ref m4, .ref m5, .ref m6, .ref m7, .ref m8, .ref m9, .ref m10])), (m1, .inl (cA, 80, .inl (X 0))), (m2, .inl (cA, 80, .inl (X 1))), (m3, .inl (cA, 80, .inl (X 2))), (m4, .inl (cA, 80, .inl (X 3))), (m5, .inl (cA, 80, .inl (X 4))), (m6, .inl (cA, 20, .inl sl)), (m7, .inl (cA, 10, .inl tt)), (m8, .inl (cA, 10, .inl sm)), (m9, .inl (cA, 10, .inl (accF hs (aN X) (rwt X n t k v lf (rwan X n t k v n) (rmo X n t k v lf)) (i + 1)))), (m10, .inl (cA, 64, .inl lt))]) 9 (g := accF hs (aN X) (rwt X n t k v lf (rwan X n t k v n) (rmo X n t k v lf)) (i + 1)) rfl (fun i9 _ => congrFun (accF_s hs (aN X) (rwt X n t k v lf (rwan X n t k v n) (rmo X n t k v lf)) i) i9) rfl ?_
                            refine j_iload F d_M_serves_216 7 rfl ?_
                            refine j_iload F d_M_serves_218 7 rfl ?_
                            refine j_if_le (tgt := 227) F d_M_serves_220 (by decide) (fun c_220 => ?_) (fun c_220 => ?_)
                            · have c_220 : (rmo X n t k v lf - cntB (asB X n t k v) i) ≤ 0 := (nI_leI (by omega) (by omega)).mp c_220
                              refine j_iconst (v := nI 0) F d_M_serves_227 (by decide) ?_
                              refine j_isub (v := nI (rmo X n t k v lf - cntB (asB X n t k v) (i + 1))) F d_M_serves_228 (by rw [pk_sub (by omega), cntB_t (p := asB X n t k v) hask]; first | done | exact congrArg nI (by omega)) ?_
                              refine j_istore (lv' := [(7, .int (nI (rmo X n t k v lf - cntB (asB X n t k v) (i + 1)))), (0, .ref m0), (1, .int v), (2, .int (nI lf)), (3, .int t), (4, .int k), (5, .int (nI (rwan X n t k v n))), (6, .int (nI (rspn X n t k v lf (rwan X n t k v n) n))), (8, .int (nI i))]) F d_M_serves_229 (by decide) rfl ?_
                              refine j_iinc (v := nI (i + 1)) (lv' := [(8, .int (nI (i + 1))), (7, .int (nI (rmo X n t k v lf - cntB (asB X n t k v) (i + 1)))), (0, .ref m0), (1, .int v), (2, .int (nI lf)), (3, .int t), (4, .int k), (5, .int (nI (rwan X n t k v n))), (6, .int (nI (rspn X n t k v lf (rwan X n t k v n) n)))]) F d_M_serves_231 8 rfl (jn_inc i) (by decide) rfl ?_
                              refine j_goto (tgt := 140) F d_M_serves_234 (by decide) ?_
                              refine j_lv (lv' := [(0, .ref m0), (1, .int v), (2, .int (nI lf)), (3, .int t), (4, .int k), (5, .int (nI (rwan X n t k v n))), (6, .int (nI (rspn X n t k v lf (rwan X n t k v n) n))), (7, .int (nI (rmo X n t k v lf - cntB (asB X n t k v) (i + 1)))), (8, .int (nI (i + 1)))]) [2, 3, 4, 5, 6, 7, 8, 1, 0] rfl ?_
                              exact ih140 (i + 1) (by omega) (by omega)
                            · have c_220 : ¬ (rmo X n t k v lf - cntB (asB X n t k v) i) ≤ 0 := fun h => c_220 ((nI_leI (by omega) (by omega)).mpr h)
                              exact absurd c_205 c_220
                          · have c_205 : ¬ (rmo X n t k v lf - cntB (asB X n t k v) i) ≤ 0 := fun h => c_205 ((nI_leI (by omega) (by omega)).mpr h)
                            refine j_iconst (v := nI 1) F d_M_serves_208 (by decide) ?_
                            refine j_goto (tgt := 213) F d_M_serves_209 (by decide) ?_
                            refine j_iadd (v := nI (rwt X n t k v lf (rwan X n t k v n) (rmo X n t k v lf) i)) F d_M_serves_213 (by rw [nI_add]; unfold rwt shr; rw [hask, if_pos (show rwan X n t k v n ≤ lf by omega), if_pos (show cntB (asB X n t k v) i < rmo X n t k v lf by omega)]; rfl) ?_
                            refine j_iadd (v := ((accF hs (aN X) (rwt X n t k v lf (rwan X n t k v n) (rmo X n t k v lf)) i) (aN X i)) + (nI (rwt X n t k v lf (rwan X n t k v n) (rmo X n t k v lf) i))) F d_M_serves_214 rfl ?_
                            refine j_iast (ws' := [(m0, .inr (6, [.int th, .int now, .int (nI n), .int rf, .ref m1, .ref m2, .ref m3, .ref m4, .ref m5, .ref m6, .ref m7, .ref m8, .ref m9, .ref m10])), (m1, .inl (cA, 80, .inl (X 0))), (m2, .inl (cA, 80, .inl (X 1))), (m3, .inl (cA, 80, .inl (X 2))), (m4, .inl (cA, 80, .inl (X 3))), (m5, .inl (cA, 80, .inl (X 4))), (m6, .inl (cA, 20, .inl sl)), (m7, .inl (cA, 10, .inl tt)), (m8, .inl (cA, 10, .inl sm)), (m9, .inl (cA, 10, .inl (upd (accF hs (aN X) (rwt X n t k v lf (rwan X n t k v n) (rmo X n t k v lf)) i) (aN X i) (((accF hs (aN X) (rwt X n t k v lf (rwan X n t k v n) (rmo X n t k v lf)) i) (aN X i)) + (nI (rwt X n t k v lf (rwan X n t k v n) (rmo X n t k v lf) i)))))), (m10, .inl (cA, 64, .inl lt))]) F hK 9 0 rfl rfl (by omega) (by decide) d_M_serves_215 rfl ?_
                            refine j_ext (ws' := [(m0, .inr (6, [.int th, .int now, .int (nI n), .int rf, .ref m1, .ref m2, .ref m3, .ref m4, .ref m5, .ref m6, .ref m7, .ref m8, .ref m9, .ref m10])), (m1, .inl (cA, 80, .inl (X 0))), (m2, .inl (cA, 80, .inl (X 1))), (m3, .inl (cA, 80, .inl (X 2))), (m4, .inl (cA, 80, .inl (X 3))), (m5, .inl (cA, 80, .inl (X 4))), (m6, .inl (cA, 20, .inl sl)), (m7, .inl (cA, 10, .inl tt)), (m8, .inl (cA, 10, .inl sm)), (m9, .inl (cA, 10, .inl (accF hs (aN X) (rwt X n t k v lf (rwan X n t k v n) (rmo X n t k v lf)) (i + 1)))), (m10, .inl (cA, 64, .inl lt))]) 9 (g := accF hs (aN X) (rwt X n t k v lf (rwan X n t k v n) (rmo X n t k v lf)) (i + 1)) rfl (fun i9 _ => congrFun (accF_s hs (aN X) (rwt X n t k v lf (rwan X n t k v n) (rmo X n t k v lf)) i) i9) rfl ?_
                            refine j_iload F d_M_serves_216 7 rfl ?_
                            refine j_iload F d_M_serves_218 7 rfl ?_
                            refine j_if_le (tgt := 227) F d_M_serves_220 (by decide) (fun c_220 => ?_) (fun c_220 => ?_)
                            · have c_220 : (rmo X n t k v lf - cntB (asB X n t k v) i) ≤ 0 := (nI_leI (by omega) (by omega)).mp c_220
                              exact absurd c_220 c_205
                            · have c_220 : ¬ (rmo X n t k v lf - cntB (asB X n t k v) i) ≤ 0 := fun h => c_220 ((nI_leI (by omega) (by omega)).mpr h)
                              refine j_iconst (v := nI 1) F d_M_serves_223 (by decide) ?_
                              refine j_goto (tgt := 228) F d_M_serves_224 (by decide) ?_
                              refine j_isub (v := nI (rmo X n t k v lf - cntB (asB X n t k v) (i + 1))) F d_M_serves_228 (by rw [pk_sub (by omega), cntB_t (p := asB X n t k v) hask]; first | done | exact congrArg nI (by omega)) ?_
                              refine j_istore (lv' := [(7, .int (nI (rmo X n t k v lf - cntB (asB X n t k v) (i + 1)))), (0, .ref m0), (1, .int v), (2, .int (nI lf)), (3, .int t), (4, .int k), (5, .int (nI (rwan X n t k v n))), (6, .int (nI (rspn X n t k v lf (rwan X n t k v n) n))), (8, .int (nI i))]) F d_M_serves_229 (by decide) rfl ?_
                              refine j_iinc (v := nI (i + 1)) (lv' := [(8, .int (nI (i + 1))), (7, .int (nI (rmo X n t k v lf - cntB (asB X n t k v) (i + 1)))), (0, .ref m0), (1, .int v), (2, .int (nI lf)), (3, .int t), (4, .int k), (5, .int (nI (rwan X n t k v n))), (6, .int (nI (rspn X n t k v lf (rwan X n t k v n) n)))]) F d_M_serves_231 8 rfl (jn_inc i) (by decide) rfl ?_
                              refine j_goto (tgt := 140) F d_M_serves_234 (by decide) ?_
                              refine j_lv (lv' := [(0, .ref m0), (1, .int v), (2, .int (nI lf)), (3, .int t), (4, .int k), (5, .int (nI (rwan X n t k v n))), (6, .int (nI (rspn X n t k v lf (rwan X n t k v n) n))), (7, .int (nI (rmo X n t k v lf - cntB (asB X n t k v) (i + 1)))), (8, .int (nI (i + 1)))]) [2, 3, 4, 5, 6, 7, 8, 1, 0] rfl ?_
                              exact ih140 (i + 1) (by omega) (by omega)
                refine j_lv (lv' := [(0, .ref m0), (1, .int v), (2, .int (nI lf)), (3, .int t), (4, .int k), (5, .int (nI (rwan X n t k v n))), (6, .int (nI (rspn X n t k v lf (rwan X n t k v n) n))), (7, .int (nI (rmo X n t k v lf))), (8, .int (nI 0))]) [2, 3, 4, 5, 6, 7, 8, 1, 0] rfl ?_
                refine j_ext (ws' := [(m0, .inr (6, [.int th, .int now, .int (nI n), .int rf, .ref m1, .ref m2, .ref m3, .ref m4, .ref m5, .ref m6, .ref m7, .ref m8, .ref m9, .ref m10])), (m1, .inl (cA, 80, .inl (X 0))), (m2, .inl (cA, 80, .inl (X 1))), (m3, .inl (cA, 80, .inl (X 2))), (m4, .inl (cA, 80, .inl (X 3))), (m5, .inl (cA, 80, .inl (X 4))), (m6, .inl (cA, 20, .inl sl)), (m7, .inl (cA, 10, .inl tt)), (m8, .inl (cA, 10, .inl sm)), (m9, .inl (cA, 10, .inl (accF hs (aN X) (rwt X n t k v lf (rwan X n t k v n) (rmo X n t k v lf)) 0))), (m10, .inl (cA, 64, .inl lt))]) 9 (g := accF hs (aN X) (rwt X n t k v lf (rwan X n t k v n) (rmo X n t k v lf)) 0) rfl (fun i _ => (congrFun (accF_0 _ _ _) i).symm) rfl ?_
                exact loop140 (n + 1) 0 (by omega) (by omega)
              · have c_124 : ¬ lf < (rwan X n t k v n) := fun h => c_124 ((nI_ltI (by omega) (by omega)).mpr h)
                refine j_iconst (v := nI 0) F d_M_serves_127 (by decide) ?_
                refine j_goto (tgt := 135) F d_M_serves_128 (by decide) ?_
                refine j_top (y := nI (rmo X n t k v lf)) (by unfold rmo; rw [if_pos (by omega)]) ?_
                refine j_istore (lv' := [(7, .int (nI (rmo X n t k v lf))), (0, .ref m0), (1, .int v), (2, .int (nI lf)), (3, .int t), (4, .int k), (5, .int (nI (rwan X n t k v n))), (6, .int (nI (rspn X n t k v lf (rwan X n t k v n) n)))]) F d_M_serves_135 (by decide) rfl ?_
                refine j_iconst (v := nI 0) F d_M_serves_137 (by decide) ?_
                refine j_istore (lv' := [(8, .int (nI 0)), (7, .int (nI (rmo X n t k v lf))), (0, .ref m0), (1, .int v), (2, .int (nI lf)), (3, .int t), (4, .int k), (5, .int (nI (rwan X n t k v n))), (6, .int (nI (rspn X n t k v lf (rwan X n t k v n) n)))]) F d_M_serves_138 (by decide) rfl ?_
                have loop140 : ∀ (fuel : Nat) (i : Nat) (hfuel140 : n - i < fuel) (hi : i ≤ n), J p l e rm_M_serves s m args below meth cd D vwCl A s.heap 9 0 0 Q [(m0, .inr (6, [.int th, .int now, .int (nI n), .int rf, .ref m1, .ref m2, .ref m3, .ref m4, .ref m5, .ref m6, .ref m7, .ref m8, .ref m9, .ref m10])), (m1, .inl (cA, 80, .inl (X 0))), (m2, .inl (cA, 80, .inl (X 1))), (m3, .inl (cA, 80, .inl (X 2))), (m4, .inl (cA, 80, .inl (X 3))), (m5, .inl (cA, 80, .inl (X 4))), (m6, .inl (cA, 20, .inl sl)), (m7, .inl (cA, 10, .inl tt)), (m8, .inl (cA, 10, .inl sm)), (m9, .inl (cA, 10, .inl (accF hs (aN X) (rwt X n t k v lf (rwan X n t k v n) (rmo X n t k v lf)) i))), (m10, .inl (cA, 64, .inl lt))] [(0, .ref m0), (1, .int v), (2, .int (nI lf)), (3, .int t), (4, .int k), (5, .int (nI (rwan X n t k v n))), (6, .int (nI (rspn X n t k v lf (rwan X n t k v n) n))), (7, .int (nI (rmo X n t k v lf - cntB (asB X n t k v) i))), (8, .int (nI i))] 140 [] := by
                  intro fuel
                  induction fuel with
                  | zero => intro i hfuel; exact absurd hfuel (Nat.not_lt_zero _)
                  | succ fuel ih140 =>
                    intro i hfuel140 hi
                    have hcl := cntB_le (asB X n t k v) i
                    have hmo : rmo X n t k v lf ≤ 1000 := by unfold rmo; split <;> omega
                    refine j_iload F d_M_serves_140 8 rfl ?_
                    refine j_aloadn F d_M_serves_142 0 rfl rfl ?_
                    refine j_get (ci := 6) (v := .int (nI n)) F in_M hK 0 rfl rfl 2 (by decide) (wm k_468) rfl d_M_serves_143 ?_
                    refine j_ic_ge (tgt := 237) F d_M_serves_146 (by decide) (fun c_146 => ?_) (fun c_146 => ?_)
                    · have c_146 : n ≤ i := (nI_leI (by omega) (by omega)).mp c_146
                      have hin : n = i := by omega
                      subst hin
                      refine j_iload F d_M_serves_237 5 rfl ?_
                      refine j_iloadn F d_M_serves_239 2 rfl rfl ?_
                      refine j_ic_gt (tgt := 250) F d_M_serves_240 (by decide) (fun c_240 => ?_) (fun c_240 => ?_)
                      · have c_240 : lf < (rwan X n t k v n) := (nI_ltI (by omega) (by omega)).mp c_240
                        refine j_iconst (v := nI 0) F d_M_serves_250 (by decide) ?_
                        exact ret _ _ _ _ _ _ () d_M_serves_251 rfl (by decide) (by decide) rfl (by unfold rlf; rw [if_neg (by omega)])
                      · have c_240 : ¬ lf < (rwan X n t k v n) := fun h => c_240 ((nI_ltI (by omega) (by omega)).mpr h)
                        refine j_iloadn F d_M_serves_243 2 rfl rfl ?_
                        refine j_iload F d_M_serves_244 5 rfl ?_
                        refine j_isub (v := nI (lf - (rwan X n t k v n))) F d_M_serves_246 (pk_sub (by omega)) ?_
                        refine j_goto (tgt := 251) F d_M_serves_247 (by decide) ?_
                        exact ret _ _ _ _ _ _ () d_M_serves_251 rfl (by decide) (by decide) rfl (by unfold rlf; rw [if_pos (by omega)])
                    · have c_146 : ¬ n ≤ i := fun h => c_146 ((nI_leI (by omega) (by omega)).mpr h)
                      refine j_aloadn F d_M_serves_149 0 rfl rfl ?_
                      refine j_iload F d_M_serves_150 8 rfl ?_
                      refine j_iloadn F d_M_serves_152 1 rfl rfl ?_
                      refine j_iloadn F d_M_serves_153 3 rfl rfl ?_
                      refine j_iload F d_M_serves_154 4 rfl ?_
                      refine j_goi (wc := [(m0, .inr (6, [.int th, .int now, .int (nI n), .int rf, .ref m1, .ref m2, .ref m3, .ref m4, .ref m5, .ref m6, .ref m7, .ref m8, .ref m9, .ref m10])), (m1, .inl (cA, 80, .inl (X 0))), (m2, .inl (cA, 80, .inl (X 1))), (m3, .inl (cA, 80, .inl (X 2))), (m4, .inl (cA, 80, .inl (X 3))), (m5, .inl (cA, 80, .inl (X 4))), (m6, .inl (cA, 20, .inl sl)), (m7, .inl (cA, 10, .inl tt)), (m8, .inl (cA, 10, .inl sm)), (m9, .inl (cA, 10, .inl (accF hs (aN X) (rwt X n t k v lf (rwan X n t k v n) (rmo X n t k v lf)) i))), (m10, .inl (cA, 64, .inl lt))]) (wr := []) hA [0, 1, 2, 3, 4, 5, 6, 7, 8, 9, 10] [] rfl rfl (by decide) (by decide) (fun H locs ls hP hD hl => va_runV (As := [.int (nI i), .int v, .int t, .int k]) (rest := []) F (ct_M_asks l D cA m0 m1 m2 m3 m4 m5 m6 m7 m8 m9 m10 th now n rf X sl tt sm (accF hs (aN X) (rwt X n t k v lf (rwan X n t k v n) (rmo X n t k v lf)) i) lt hA0 i (by omega) v t k  H.size) ⟨callB_of 4 F.2.2.2.2 (gd k_592) rfl rfl rfl (F.2.2.2.2 _ (wm k_7)) (F.2.2.2.2 _ (wm k_589)) (by decide +kernel) ⟨by decide, by decide⟩, F.2.2.2.2 _ (wm k_591), F.2.2.2.2 _ (wm ks_35)⟩ (pre_V rfl hK hN hP hD [0, 1, 2, 3, 4, 5, 6, 7, 8, 9, 10] rfl (by decide) 0 rfl rfl) rfl rfl hl.1 rfl (lv_room (Nat.le_of_ble_eq_true rfl)) d_M_serves_156 ⟨by decide, by decide⟩) (fun r156 u156 hw156 => ?_)
                      subst hw156
                      refine j_ws (ws' := [(m0, .inr (6, [.int th, .int now, .int (nI n), .int rf, .ref m1, .ref m2, .ref m3, .ref m4, .ref m5, .ref m6, .ref m7, .ref m8, .ref m9, .ref m10])), (m1, .inl (cA, 80, .inl (X 0))), (m2, .inl (cA, 80, .inl (X 1))), (m3, .inl (cA, 80, .inl (X 2))), (m4, .inl (cA, 80, .inl (X 3))), (m5, .inl (cA, 80, .inl (X 4))), (m6, .inl (cA, 20, .inl sl)), (m7, .inl (cA, 10, .inl tt)), (m8, .inl (cA, 10, .inl sm)), (m9, .inl (cA, 10, .inl (accF hs (aN X) (rwt X n t k v lf (rwan X n t k v n) (rmo X n t k v lf)) i))), (m10, .inl (cA, 64, .inl lt))]) [0, 1, 2, 3, 4, 5, 6, 7, 8, 9, 10] (by decide) rfl ?_
                      refine j_if_eq (tgt := 231) F d_M_serves_159 (by decide) (fun c_159 => ?_) (fun c_159 => ?_)
                      · have hz0 : rwt X n t k v lf (rwan X n t k v n) (rmo X n t k v lf) i = 0 := by unfold rwt; rw [bI_0 c_159]; rfl
                        rw [← accF_z (g0 := hs) (al := aN X) hz0, ← cntB_f (p := asB X n t k v) (bI_0 c_159)]
                        refine j_iinc (v := nI (i + 1)) (lv' := [(8, .int (nI (i + 1))), (0, .ref m0), (1, .int v), (2, .int (nI lf)), (3, .int t), (4, .int k), (5, .int (nI (rwan X n t k v n))), (6, .int (nI (rspn X n t k v lf (rwan X n t k v n) n))), (7, .int (nI (rmo X n t k v lf - cntB (asB X n t k v) (i + 1))))]) F d_M_serves_231 8 rfl (jn_inc i) (by decide) rfl ?_
                        refine j_goto (tgt := 140) F d_M_serves_234 (by decide) ?_
                        refine j_lv (lv' := [(0, .ref m0), (1, .int v), (2, .int (nI lf)), (3, .int t), (4, .int k), (5, .int (nI (rwan X n t k v n))), (6, .int (nI (rspn X n t k v lf (rwan X n t k v n) n))), (7, .int (nI (rmo X n t k v lf - cntB (asB X n t k v) (i + 1)))), (8, .int (nI (i + 1)))]) [1, 2, 3, 4, 5, 6, 7, 8, 0] rfl ?_
                        exact ih140 (i + 1) (by omega) (by omega)
                      · have hask := bI_1 c_159
                        have hb1 := bN_eq (hA0.2 i (by omega)) (asB_ask hask).1
                        have ha1 := aN_eq (hA0.2 i (by omega)) (asB_ask hask).1
                        have hb12 := hb1.2
                        have ha12 := ha1.2
                        have hbl : bN X i * lf ≤ 1000 * 1000 := Nat.mul_le_mul hb1.2.2 hlf
                        refine j_aloadn F d_M_serves_162 0 rfl rfl ?_
                        refine j_get (ci := 6) (v := .ref m9) F in_M hK 0 rfl rfl 12 (by decide) (wm k_478) rfl d_M_serves_163 ?_
                        refine j_aloadn F d_M_serves_166 0 rfl rfl ?_
                        refine j_get (ci := 6) (v := .ref m2) F in_M hK 0 rfl rfl 5 (by decide) (wm k_471) rfl d_M_serves_167 ?_
                        refine j_iload F d_M_serves_170 8 rfl ?_
                        refine j_iald (v := nI (aN X i)) F hK 2 0 rfl rfl (by omega) (by decide) d_M_serves_172 ha1.1 ?_
                        refine j_dup2 F d_M_serves_173 rfl rfl ?_
                        refine j_iald (v := (accF hs (aN X) (rwt X n t k v lf (rwan X n t k v n) (rmo X n t k v lf)) i) (aN X i)) F hK 9 0 rfl rfl (by omega) (by decide) d_M_serves_174 rfl ?_
                        refine j_iload F d_M_serves_175 5 rfl ?_
                        refine j_iloadn F d_M_serves_177 2 rfl rfl ?_
                        refine j_ic_gt (tgt := 191) F d_M_serves_178 (by decide) (fun c_178 => ?_) (fun c_178 => ?_)
                        · have c_178 : lf < (rwan X n t k v n) := (nI_ltI (by omega) (by omega)).mp c_178
                          refine j_aloadn F d_M_serves_191 0 rfl rfl ?_
                          refine j_get (ci := 6) (v := .ref m3) F in_M hK 0 rfl rfl 6 (by decide) (wm k_472) rfl d_M_serves_192 ?_
                          refine j_iload F d_M_serves_195 8 rfl ?_
                          refine j_iald (v := nI (bN X i)) F hK 3 0 rfl rfl (by omega) (by decide) d_M_serves_197 hb1.1 ?_
                          refine j_iloadn F d_M_serves_198 2 rfl rfl ?_
                          refine j_imul (v := nI ((bN X i) * lf)) F d_M_serves_199 (pk_mul _ _) ?_
                          refine j_iload F d_M_serves_200 5 rfl ?_
                          refine j_idiv (v := nI (((bN X i) * lf) / (rwan X n t k v n))) F d_M_serves_202 (nI_ne0 (by omega) (by omega)) (pk_div (by omega) (by omega) (by omega)) ?_
                          refine j_iload F d_M_serves_203 7 rfl ?_
                          refine j_if_le (tgt := 212) F d_M_serves_205 (by decide) (fun c_205 => ?_) (fun c_205 => ?_)
                          · have c_205 : (rmo X n t k v lf - cntB (asB X n t k v) i) ≤ 0 := (nI_leI (by omega) (by omega)).mp c_205
                            refine j_iconst (v := nI 0) F d_M_serves_212 (by decide) ?_
                            refine j_iadd (v := nI (rwt X n t k v lf (rwan X n t k v n) (rmo X n t k v lf) i)) F d_M_serves_213 (by rw [nI_add]; unfold rwt shr; rw [hask, if_neg (show ¬ rwan X n t k v n ≤ lf by omega), if_neg (show ¬ cntB (asB X n t k v) i < rmo X n t k v lf by omega)]; rfl) ?_
                            refine j_iadd (v := ((accF hs (aN X) (rwt X n t k v lf (rwan X n t k v n) (rmo X n t k v lf)) i) (aN X i)) + (nI (rwt X n t k v lf (rwan X n t k v n) (rmo X n t k v lf) i))) F d_M_serves_214 rfl ?_
                            refine j_iast (ws' := [(m0, .inr (6, [.int th, .int now, .int (nI n), .int rf, .ref m1, .ref m2, .ref m3, .ref m4, .ref m5, .ref m6, .ref m7, .ref m8, .ref m9, .ref m10])), (m1, .inl (cA, 80, .inl (X 0))), (m2, .inl (cA, 80, .inl (X 1))), (m3, .inl (cA, 80, .inl (X 2))), (m4, .inl (cA, 80, .inl (X 3))), (m5, .inl (cA, 80, .inl (X 4))), (m6, .inl (cA, 20, .inl sl)), (m7, .inl (cA, 10, .inl tt)), (m8, .inl (cA, 10, .inl sm)), (m9, .inl (cA, 10, .inl (upd (accF hs (aN X) (rwt X n t k v lf (rwan X n t k v n) (rmo X n t k v lf)) i) (aN X i) (((accF hs (aN X) (rwt X n t k v lf (rwan X n t k v n) (rmo X n t k v lf)) i) (aN X i)) + (nI (rwt X n t k v lf (rwan X n t k v n) (rmo X n t k v lf) i)))))), (m10, .inl (cA, 64, .inl lt))]) F hK 9 0 rfl rfl (by omega) (by decide) d_M_serves_215 rfl ?_
                            refine j_ext (ws' := [(m0, .inr (6, [.int th, .int now, .int (nI n), .int rf, .ref m1, .ref m2, .ref m3, .ref m4, .ref m5, .ref m6, .ref m7, .ref m8, .ref m9, .ref m10])), (m1, .inl (cA, 80, .inl (X 0))), (m2, .inl (cA, 80, .inl (X 1))), (m3, .inl (cA, 80, .inl (X 2))), (m4, .inl (cA, 80, .inl (X 3))), (m5, .inl (cA, 80, .inl (X 4))), (m6, .inl (cA, 20, .inl sl)), (m7, .inl (cA, 10, .inl tt)), (m8, .inl (cA, 10, .inl sm)), (m9, .inl (cA, 10, .inl (accF hs (aN X) (rwt X n t k v lf (rwan X n t k v n) (rmo X n t k v lf)) (i + 1)))), (m10, .inl (cA, 64, .inl lt))]) 9 (g := accF hs (aN X) (rwt X n t k v lf (rwan X n t k v n) (rmo X n t k v lf)) (i + 1)) rfl (fun i9 _ => congrFun (accF_s hs (aN X) (rwt X n t k v lf (rwan X n t k v n) (rmo X n t k v lf)) i) i9) rfl ?_
                            refine j_iload F d_M_serves_216 7 rfl ?_
                            refine j_iload F d_M_serves_218 7 rfl ?_
                            refine j_if_le (tgt := 227) F d_M_serves_220 (by decide) (fun c_220 => ?_) (fun c_220 => ?_)
                            · have c_220 : (rmo X n t k v lf - cntB (asB X n t k v) i) ≤ 0 := (nI_leI (by omega) (by omega)).mp c_220
                              refine j_iconst (v := nI 0) F d_M_serves_227 (by decide) ?_
                              refine j_isub (v := nI (rmo X n t k v lf - cntB (asB X n t k v) (i + 1))) F d_M_serves_228 (by rw [pk_sub (by omega), cntB_t (p := asB X n t k v) hask]; first | done | exact congrArg nI (by omega)) ?_
                              refine j_istore (lv' := [(7, .int (nI (rmo X n t k v lf - cntB (asB X n t k v) (i + 1)))), (0, .ref m0), (1, .int v), (2, .int (nI lf)), (3, .int t), (4, .int k), (5, .int (nI (rwan X n t k v n))), (6, .int (nI (rspn X n t k v lf (rwan X n t k v n) n))), (8, .int (nI i))]) F d_M_serves_229 (by decide) rfl ?_
                              refine j_iinc (v := nI (i + 1)) (lv' := [(8, .int (nI (i + 1))), (7, .int (nI (rmo X n t k v lf - cntB (asB X n t k v) (i + 1)))), (0, .ref m0), (1, .int v), (2, .int (nI lf)), (3, .int t), (4, .int k), (5, .int (nI (rwan X n t k v n))), (6, .int (nI (rspn X n t k v lf (rwan X n t k v n) n)))]) F d_M_serves_231 8 rfl (jn_inc i) (by decide) rfl ?_
                              refine j_goto (tgt := 140) F d_M_serves_234 (by decide) ?_
                              refine j_lv (lv' := [(0, .ref m0), (1, .int v), (2, .int (nI lf)), (3, .int t), (4, .int k), (5, .int (nI (rwan X n t k v n))), (6, .int (nI (rspn X n t k v lf (rwan X n t k v n) n))), (7, .int (nI (rmo X n t k v lf - cntB (asB X n t k v) (i + 1)))), (8, .int (nI (i + 1)))]) [2, 3, 4, 5, 6, 7, 8, 1, 0] rfl ?_
                              exact ih140 (i + 1) (by omega) (by omega)
                            · have c_220 : ¬ (rmo X n t k v lf - cntB (asB X n t k v) i) ≤ 0 := fun h => c_220 ((nI_leI (by omega) (by omega)).mpr h)
                              exact absurd c_205 c_220
                          · have c_205 : ¬ (rmo X n t k v lf - cntB (asB X n t k v) i) ≤ 0 := fun h => c_205 ((nI_leI (by omega) (by omega)).mpr h)
                            refine j_iconst (v := nI 1) F d_M_serves_208 (by decide) ?_
                            refine j_goto (tgt := 213) F d_M_serves_209 (by decide) ?_
                            refine j_iadd (v := nI (rwt X n t k v lf (rwan X n t k v n) (rmo X n t k v lf) i)) F d_M_serves_213 (by rw [nI_add]; unfold rwt shr; rw [hask, if_neg (show ¬ rwan X n t k v n ≤ lf by omega), if_pos (show cntB (asB X n t k v) i < rmo X n t k v lf by omega)]; rfl) ?_
                            refine j_iadd (v := ((accF hs (aN X) (rwt X n t k v lf (rwan X n t k v n) (rmo X n t k v lf)) i) (aN X i)) + (nI (rwt X n t k v lf (rwan X n t k v n) (rmo X n t k v lf) i))) F d_M_serves_214 rfl ?_
                            refine j_iast (ws' := [(m0, .inr (6, [.int th, .int now, .int (nI n), .int rf, .ref m1, .ref m2, .ref m3, .ref m4, .ref m5, .ref m6, .ref m7, .ref m8, .ref m9, .ref m10])), (m1, .inl (cA, 80, .inl (X 0))), (m2, .inl (cA, 80, .inl (X 1))), (m3, .inl (cA, 80, .inl (X 2))), (m4, .inl (cA, 80, .inl (X 3))), (m5, .inl (cA, 80, .inl (X 4))), (m6, .inl (cA, 20, .inl sl)), (m7, .inl (cA, 10, .inl tt)), (m8, .inl (cA, 10, .inl sm)), (m9, .inl (cA, 10, .inl (upd (accF hs (aN X) (rwt X n t k v lf (rwan X n t k v n) (rmo X n t k v lf)) i) (aN X i) (((accF hs (aN X) (rwt X n t k v lf (rwan X n t k v n) (rmo X n t k v lf)) i) (aN X i)) + (nI (rwt X n t k v lf (rwan X n t k v n) (rmo X n t k v lf) i)))))), (m10, .inl (cA, 64, .inl lt))]) F hK 9 0 rfl rfl (by omega) (by decide) d_M_serves_215 rfl ?_
                            refine j_ext (ws' := [(m0, .inr (6, [.int th, .int now, .int (nI n), .int rf, .ref m1, .ref m2, .ref m3, .ref m4, .ref m5, .ref m6, .ref m7, .ref m8, .ref m9, .ref m10])), (m1, .inl (cA, 80, .inl (X 0))), (m2, .inl (cA, 80, .inl (X 1))), (m3, .inl (cA, 80, .inl (X 2))), (m4, .inl (cA, 80, .inl (X 3))), (m5, .inl (cA, 80, .inl (X 4))), (m6, .inl (cA, 20, .inl sl)), (m7, .inl (cA, 10, .inl tt)), (m8, .inl (cA, 10, .inl sm)), (m9, .inl (cA, 10, .inl (accF hs (aN X) (rwt X n t k v lf (rwan X n t k v n) (rmo X n t k v lf)) (i + 1)))), (m10, .inl (cA, 64, .inl lt))]) 9 (g := accF hs (aN X) (rwt X n t k v lf (rwan X n t k v n) (rmo X n t k v lf)) (i + 1)) rfl (fun i9 _ => congrFun (accF_s hs (aN X) (rwt X n t k v lf (rwan X n t k v n) (rmo X n t k v lf)) i) i9) rfl ?_
                            refine j_iload F d_M_serves_216 7 rfl ?_
                            refine j_iload F d_M_serves_218 7 rfl ?_
                            refine j_if_le (tgt := 227) F d_M_serves_220 (by decide) (fun c_220 => ?_) (fun c_220 => ?_)
                            · have c_220 : (rmo X n t k v lf - cntB (asB X n t k v) i) ≤ 0 := (nI_leI (by omega) (by omega)).mp c_220
                              exact absurd c_220 c_205
                            · have c_220 : ¬ (rmo X n t k v lf - cntB (asB X n t k v) i) ≤ 0 := fun h => c_220 ((nI_leI (by omega) (by omega)).mpr h)
                              refine j_iconst (v := nI 1) F d_M_serves_223 (by decide) ?_
                              refine j_goto (tgt := 228) F d_M_serves_224 (by decide) ?_
                              refine j_isub (v := nI (rmo X n t k v lf - cntB (asB X n t k v) (i + 1))) F d_M_serves_228 (by rw [pk_sub (by omega), cntB_t (p := asB X n t k v) hask]; first | done | exact congrArg nI (by omega)) ?_
                              refine j_istore (lv' := [(7, .int (nI (rmo X n t k v lf - cntB (asB X n t k v) (i + 1)))), (0, .ref m0), (1, .int v), (2, .int (nI lf)), (3, .int t), (4, .int k), (5, .int (nI (rwan X n t k v n))), (6, .int (nI (rspn X n t k v lf (rwan X n t k v n) n))), (8, .int (nI i))]) F d_M_serves_229 (by decide) rfl ?_
                              refine j_iinc (v := nI (i + 1)) (lv' := [(8, .int (nI (i + 1))), (7, .int (nI (rmo X n t k v lf - cntB (asB X n t k v) (i + 1)))), (0, .ref m0), (1, .int v), (2, .int (nI lf)), (3, .int t), (4, .int k), (5, .int (nI (rwan X n t k v n))), (6, .int (nI (rspn X n t k v lf (rwan X n t k v n) n)))]) F d_M_serves_231 8 rfl (jn_inc i) (by decide) rfl ?_
                              refine j_goto (tgt := 140) F d_M_serves_234 (by decide) ?_
                              refine j_lv (lv' := [(0, .ref m0), (1, .int v), (2, .int (nI lf)), (3, .int t), (4, .int k), (5, .int (nI (rwan X n t k v n))), (6, .int (nI (rspn X n t k v lf (rwan X n t k v n) n))), (7, .int (nI (rmo X n t k v lf - cntB (asB X n t k v) (i + 1)))), (8, .int (nI (i + 1)))]) [2, 3, 4, 5, 6, 7, 8, 1, 0] rfl ?_
                              exact ih140 (i + 1) (by omega) (by omega)
                        · have c_178 : ¬ lf < (rwan X n t k v n) := fun h => c_178 ((nI_ltI (by omega) (by omega)).mpr h)
                          refine j_aloadn F d_M_serves_181 0 rfl rfl ?_
                          refine j_get (ci := 6) (v := .ref m3) F in_M hK 0 rfl rfl 6 (by decide) (wm k_472) rfl d_M_serves_182 ?_
                          refine j_iload F d_M_serves_185 8 rfl ?_
                          refine j_iald (v := nI (bN X i)) F hK 3 0 rfl rfl (by omega) (by decide) d_M_serves_187 hb1.1 ?_
                          refine j_goto (tgt := 203) F d_M_serves_188 (by decide) ?_
                          refine j_iload F d_M_serves_203 7 rfl ?_
                          refine j_if_le (tgt := 212) F d_M_serves_205 (by decide) (fun c_205 => ?_) (fun c_205 => ?_)
                          · have c_205 : (rmo X n t k v lf - cntB (asB X n t k v) i) ≤ 0 := (nI_leI (by omega) (by omega)).mp c_205
                            refine j_iconst (v := nI 0) F d_M_serves_212 (by decide) ?_
                            refine j_iadd (v := nI (rwt X n t k v lf (rwan X n t k v n) (rmo X n t k v lf) i)) F d_M_serves_213 (by rw [nI_add]; unfold rwt shr; rw [hask, if_pos (show rwan X n t k v n ≤ lf by omega), if_neg (show ¬ cntB (asB X n t k v) i < rmo X n t k v lf by omega)]; rfl) ?_
                            refine j_iadd (v := ((accF hs (aN X) (rwt X n t k v lf (rwan X n t k v n) (rmo X n t k v lf)) i) (aN X i)) + (nI (rwt X n t k v lf (rwan X n t k v n) (rmo X n t k v lf) i))) F d_M_serves_214 rfl ?_
                            refine j_iast (ws' := [(m0, .inr (6, [.int th, .int now, .int (nI n), .int rf, .ref m1, .ref m2, .ref m3, .ref m4, .ref m5, .ref m6, .ref m7, .ref m8, .ref m9, .ref m10])), (m1, .inl (cA, 80, .inl (X 0))), (m2, .inl (cA, 80, .inl (X 1))), (m3, .inl (cA, 80, .inl (X 2))), (m4, .inl (cA, 80, .inl (X 3))), (m5, .inl (cA, 80, .inl (X 4))), (m6, .inl (cA, 20, .inl sl)), (m7, .inl (cA, 10, .inl tt)), (m8, .inl (cA, 10, .inl sm)), (m9, .inl (cA, 10, .inl (upd (accF hs (aN X) (rwt X n t k v lf (rwan X n t k v n) (rmo X n t k v lf)) i) (aN X i) (((accF hs (aN X) (rwt X n t k v lf (rwan X n t k v n) (rmo X n t k v lf)) i) (aN X i)) + (nI (rwt X n t k v lf (rwan X n t k v n) (rmo X n t k v lf) i)))))), (m10, .inl (cA, 64, .inl lt))]) F hK 9 0 rfl rfl (by omega) (by decide) d_M_serves_215 rfl ?_
                            refine j_ext (ws' := [(m0, .inr (6, [.int th, .int now, .int (nI n), .int rf, .ref m1, .ref m2, .ref m3, .ref m4, .ref m5, .ref m6, .ref m7, .ref m8, .ref m9, .ref m10])), (m1, .inl (cA, 80, .inl (X 0))), (m2, .inl (cA, 80, .inl (X 1))), (m3, .inl (cA, 80, .inl (X 2))), (m4, .inl (cA, 80, .inl (X 3))), (m5, .inl (cA, 80, .inl (X 4))), (m6, .inl (cA, 20, .inl sl)), (m7, .inl (cA, 10, .inl tt)), (m8, .inl (cA, 10, .inl sm)), (m9, .inl (cA, 10, .inl (accF hs (aN X) (rwt X n t k v lf (rwan X n t k v n) (rmo X n t k v lf)) (i + 1)))), (m10, .inl (cA, 64, .inl lt))]) 9 (g := accF hs (aN X) (rwt X n t k v lf (rwan X n t k v n) (rmo X n t k v lf)) (i + 1)) rfl (fun i9 _ => congrFun (accF_s hs (aN X) (rwt X n t k v lf (rwan X n t k v n) (rmo X n t k v lf)) i) i9) rfl ?_
                            refine j_iload F d_M_serves_216 7 rfl ?_
                            refine j_iload F d_M_serves_218 7 rfl ?_
                            refine j_if_le (tgt := 227) F d_M_serves_220 (by decide) (fun c_220 => ?_) (fun c_220 => ?_)
                            · have c_220 : (rmo X n t k v lf - cntB (asB X n t k v) i) ≤ 0 := (nI_leI (by omega) (by omega)).mp c_220
                              refine j_iconst (v := nI 0) F d_M_serves_227 (by decide) ?_
                              refine j_isub (v := nI (rmo X n t k v lf - cntB (asB X n t k v) (i + 1))) F d_M_serves_228 (by rw [pk_sub (by omega), cntB_t (p := asB X n t k v) hask]; first | done | exact congrArg nI (by omega)) ?_
                              refine j_istore (lv' := [(7, .int (nI (rmo X n t k v lf - cntB (asB X n t k v) (i + 1)))), (0, .ref m0), (1, .int v), (2, .int (nI lf)), (3, .int t), (4, .int k), (5, .int (nI (rwan X n t k v n))), (6, .int (nI (rspn X n t k v lf (rwan X n t k v n) n))), (8, .int (nI i))]) F d_M_serves_229 (by decide) rfl ?_
                              refine j_iinc (v := nI (i + 1)) (lv' := [(8, .int (nI (i + 1))), (7, .int (nI (rmo X n t k v lf - cntB (asB X n t k v) (i + 1)))), (0, .ref m0), (1, .int v), (2, .int (nI lf)), (3, .int t), (4, .int k), (5, .int (nI (rwan X n t k v n))), (6, .int (nI (rspn X n t k v lf (rwan X n t k v n) n)))]) F d_M_serves_231 8 rfl (jn_inc i) (by decide) rfl ?_
                              refine j_goto (tgt := 140) F d_M_serves_234 (by decide) ?_
                              refine j_lv (lv' := [(0, .ref m0), (1, .int v), (2, .int (nI lf)), (3, .int t), (4, .int k), (5, .int (nI (rwan X n t k v n))), (6, .int (nI (rspn X n t k v lf (rwan X n t k v n) n))), (7, .int (nI (rmo X n t k v lf - cntB (asB X n t k v) (i + 1)))), (8, .int (nI (i + 1)))]) [2, 3, 4, 5, 6, 7, 8, 1, 0] rfl ?_
                              exact ih140 (i + 1) (by omega) (by omega)
                            · have c_220 : ¬ (rmo X n t k v lf - cntB (asB X n t k v) i) ≤ 0 := fun h => c_220 ((nI_leI (by omega) (by omega)).mpr h)
                              exact absurd c_205 c_220
                          · have c_205 : ¬ (rmo X n t k v lf - cntB (asB X n t k v) i) ≤ 0 := fun h => c_205 ((nI_leI (by omega) (by omega)).mpr h)
                            refine j_iconst (v := nI 1) F d_M_serves_208 (by decide) ?_
                            refine j_goto (tgt := 213) F d_M_serves_209 (by decide) ?_
                            refine j_iadd (v := nI (rwt X n t k v lf (rwan X n t k v n) (rmo X n t k v lf) i)) F d_M_serves_213 (by rw [nI_add]; unfold rwt shr; rw [hask, if_pos (show rwan X n t k v n ≤ lf by omega), if_pos (show cntB (asB X n t k v) i < rmo X n t k v lf by omega)]; rfl) ?_
                            refine j_iadd (v := ((accF hs (aN X) (rwt X n t k v lf (rwan X n t k v n) (rmo X n t k v lf)) i) (aN X i)) + (nI (rwt X n t k v lf (rwan X n t k v n) (rmo X n t k v lf) i))) F d_M_serves_214 rfl ?_
                            refine j_iast (ws' := [(m0, .inr (6, [.int th, .int now, .int (nI n), .int rf, .ref m1, .ref m2, .ref m3, .ref m4, .ref m5, .ref m6, .ref m7, .ref m8, .ref m9, .ref m10])), (m1, .inl (cA, 80, .inl (X 0))), (m2, .inl (cA, 80, .inl (X 1))), (m3, .inl (cA, 80, .inl (X 2))), (m4, .inl (cA, 80, .inl (X 3))), (m5, .inl (cA, 80, .inl (X 4))), (m6, .inl (cA, 20, .inl sl)), (m7, .inl (cA, 10, .inl tt)), (m8, .inl (cA, 10, .inl sm)), (m9, .inl (cA, 10, .inl (upd (accF hs (aN X) (rwt X n t k v lf (rwan X n t k v n) (rmo X n t k v lf)) i) (aN X i) (((accF hs (aN X) (rwt X n t k v lf (rwan X n t k v n) (rmo X n t k v lf)) i) (aN X i)) + (nI (rwt X n t k v lf (rwan X n t k v n) (rmo X n t k v lf) i)))))), (m10, .inl (cA, 64, .inl lt))]) F hK 9 0 rfl rfl (by omega) (by decide) d_M_serves_215 rfl ?_
                            refine j_ext (ws' := [(m0, .inr (6, [.int th, .int now, .int (nI n), .int rf, .ref m1, .ref m2, .ref m3, .ref m4, .ref m5, .ref m6, .ref m7, .ref m8, .ref m9, .ref m10])), (m1, .inl (cA, 80, .inl (X 0))), (m2, .inl (cA, 80, .inl (X 1))), (m3, .inl (cA, 80, .inl (X 2))), (m4, .inl (cA, 80, .inl (X 3))), (m5, .inl (cA, 80, .inl (X 4))), (m6, .inl (cA, 20, .inl sl)), (m7, .inl (cA, 10, .inl tt)), (m8, .inl (cA, 10, .inl sm)), (m9, .inl (cA, 10, .inl (accF hs (aN X) (rwt X n t k v lf (rwan X n t k v n) (rmo X n t k v lf)) (i + 1)))), (m10, .inl (cA, 64, .inl lt))]) 9 (g := accF hs (aN X) (rwt X n t k v lf (rwan X n t k v n) (rmo X n t k v lf)) (i + 1)) rfl (fun i9 _ => congrFun (accF_s hs (aN X) (rwt X n t k v lf (rwan X n t k v n) (rmo X n t k v lf)) i) i9) rfl ?_
                            refine j_iload F d_M_serves_216 7 rfl ?_
                            refine j_iload F d_M_serves_218 7 rfl ?_
                            refine j_if_le (tgt := 227) F d_M_serves_220 (by decide) (fun c_220 => ?_) (fun c_220 => ?_)
                            · have c_220 : (rmo X n t k v lf - cntB (asB X n t k v) i) ≤ 0 := (nI_leI (by omega) (by omega)).mp c_220
                              exact absurd c_220 c_205
                            · have c_220 : ¬ (rmo X n t k v lf - cntB (asB X n t k v) i) ≤ 0 := fun h => c_220 ((nI_leI (by omega) (by omega)).mpr h)
                              refine j_iconst (v := nI 1) F d_M_serves_223 (by decide) ?_
                              refine j_goto (tgt := 228) F d_M_serves_224 (by decide) ?_
                              refine j_isub (v := nI (rmo X n t k v lf - cntB (asB X n t k v) (i + 1))) F d_M_serves_228 (by rw [pk_sub (by omega), cntB_t (p := asB X n t k v) hask]; first | done | exact congrArg nI (by omega)) ?_
                              refine j_istore (lv' := [(7, .int (nI (rmo X n t k v lf - cntB (asB X n t k v) (i + 1)))), (0, .ref m0), (1, .int v), (2, .int (nI lf)), (3, .int t), (4, .int k), (5, .int (nI (rwan X n t k v n))), (6, .int (nI (rspn X n t k v lf (rwan X n t k v n) n))), (8, .int (nI i))]) F d_M_serves_229 (by decide) rfl ?_
                              refine j_iinc (v := nI (i + 1)) (lv' := [(8, .int (nI (i + 1))), (7, .int (nI (rmo X n t k v lf - cntB (asB X n t k v) (i + 1)))), (0, .ref m0), (1, .int v), (2, .int (nI lf)), (3, .int t), (4, .int k), (5, .int (nI (rwan X n t k v n))), (6, .int (nI (rspn X n t k v lf (rwan X n t k v n) n)))]) F d_M_serves_231 8 rfl (jn_inc i) (by decide) rfl ?_
                              refine j_goto (tgt := 140) F d_M_serves_234 (by decide) ?_
                              refine j_lv (lv' := [(0, .ref m0), (1, .int v), (2, .int (nI lf)), (3, .int t), (4, .int k), (5, .int (nI (rwan X n t k v n))), (6, .int (nI (rspn X n t k v lf (rwan X n t k v n) n))), (7, .int (nI (rmo X n t k v lf - cntB (asB X n t k v) (i + 1)))), (8, .int (nI (i + 1)))]) [2, 3, 4, 5, 6, 7, 8, 1, 0] rfl ?_
                              exact ih140 (i + 1) (by omega) (by omega)
                refine j_lv (lv' := [(0, .ref m0), (1, .int v), (2, .int (nI lf)), (3, .int t), (4, .int k), (5, .int (nI (rwan X n t k v n))), (6, .int (nI (rspn X n t k v lf (rwan X n t k v n) n))), (7, .int (nI (rmo X n t k v lf))), (8, .int (nI 0))]) [2, 3, 4, 5, 6, 7, 8, 1, 0] rfl ?_
                refine j_ext (ws' := [(m0, .inr (6, [.int th, .int now, .int (nI n), .int rf, .ref m1, .ref m2, .ref m3, .ref m4, .ref m5, .ref m6, .ref m7, .ref m8, .ref m9, .ref m10])), (m1, .inl (cA, 80, .inl (X 0))), (m2, .inl (cA, 80, .inl (X 1))), (m3, .inl (cA, 80, .inl (X 2))), (m4, .inl (cA, 80, .inl (X 3))), (m5, .inl (cA, 80, .inl (X 4))), (m6, .inl (cA, 20, .inl sl)), (m7, .inl (cA, 10, .inl tt)), (m8, .inl (cA, 10, .inl sm)), (m9, .inl (cA, 10, .inl (accF hs (aN X) (rwt X n t k v lf (rwan X n t k v n) (rmo X n t k v lf)) 0))), (m10, .inl (cA, 64, .inl lt))]) 9 (g := accF hs (aN X) (rwt X n t k v lf (rwan X n t k v n) (rmo X n t k v lf)) 0) rfl (fun i _ => (congrFun (accF_0 _ _ _) i).symm) rfl ?_
                exact loop140 (n + 1) 0 (by omega) (by omega)
            · have c_62 : ¬ n ≤ i := fun h => c_62 ((nI_leI (by omega) (by omega)).mpr h)
              refine j_iload F d_M_serves_65 6 rfl ?_
              refine j_aloadn F d_M_serves_67 0 rfl rfl ?_
              refine j_iload F d_M_serves_68 7 rfl ?_
              refine j_iloadn F d_M_serves_70 1 rfl rfl ?_
              refine j_iloadn F d_M_serves_71 3 rfl rfl ?_
              refine j_iload F d_M_serves_72 4 rfl ?_
              refine j_goi (wc := [(m0, .inr (6, [.int th, .int now, .int (nI n), .int rf, .ref m1, .ref m2, .ref m3, .ref m4, .ref m5, .ref m6, .ref m7, .ref m8, .ref m9, .ref m10])), (m1, .inl (cA, 80, .inl (X 0))), (m2, .inl (cA, 80, .inl (X 1))), (m3, .inl (cA, 80, .inl (X 2))), (m4, .inl (cA, 80, .inl (X 3))), (m5, .inl (cA, 80, .inl (X 4))), (m6, .inl (cA, 20, .inl sl)), (m7, .inl (cA, 10, .inl tt)), (m8, .inl (cA, 10, .inl sm)), (m9, .inl (cA, 10, .inl hs)), (m10, .inl (cA, 64, .inl lt))]) (wr := []) hA [0, 1, 2, 3, 4, 5, 6, 7, 8, 9, 10] [] rfl rfl (by decide) (by decide) (fun H locs ls hP hD hl => va_runV (As := [.int (nI i), .int v, .int t, .int k]) (rest := [.int (nI (rspn X n t k v lf (rwan X n t k v n) i))]) F (ct_M_asks l D cA m0 m1 m2 m3 m4 m5 m6 m7 m8 m9 m10 th now n rf X sl tt sm hs lt hA0 i (by omega) v t k  H.size) ⟨callB_of 4 F.2.2.2.2 (gd k_592) rfl rfl rfl (F.2.2.2.2 _ (wm k_7)) (F.2.2.2.2 _ (wm k_589)) (by decide +kernel) ⟨by decide, by decide⟩, F.2.2.2.2 _ (wm k_591), F.2.2.2.2 _ (wm ks_35)⟩ (pre_V rfl hK hN hP hD [0, 1, 2, 3, 4, 5, 6, 7, 8, 9, 10] rfl (by decide) 0 rfl rfl) rfl rfl hl.1 rfl (lv_room (Nat.le_of_ble_eq_true rfl)) d_M_serves_74 ⟨by decide, by decide⟩) (fun r74 u74 hw74 => ?_)
              subst hw74
              refine j_ws (ws' := [(m0, .inr (6, [.int th, .int now, .int (nI n), .int rf, .ref m1, .ref m2, .ref m3, .ref m4, .ref m5, .ref m6, .ref m7, .ref m8, .ref m9, .ref m10])), (m1, .inl (cA, 80, .inl (X 0))), (m2, .inl (cA, 80, .inl (X 1))), (m3, .inl (cA, 80, .inl (X 2))), (m4, .inl (cA, 80, .inl (X 3))), (m5, .inl (cA, 80, .inl (X 4))), (m6, .inl (cA, 20, .inl sl)), (m7, .inl (cA, 10, .inl tt)), (m8, .inl (cA, 10, .inl sm)), (m9, .inl (cA, 10, .inl hs)), (m10, .inl (cA, 64, .inl lt))]) [0, 1, 2, 3, 4, 5, 6, 7, 8, 9, 10] (by decide) rfl ?_
              refine j_if_ne (tgt := 84) F d_M_serves_77 (by decide) (fun c_77 => ?_) (fun c_77 => ?_)
              · have hask := bI_1 c_77
                have hb1 := bN_eq (hA0.2 i (by omega)) (asB_ask hask).1
                have ha1 := aN_eq (hA0.2 i (by omega)) (asB_ask hask).1
                have hb12 := hb1.2
                have ha12 := ha1.2
                have hbl : bN X i * lf ≤ 1000 * 1000 := Nat.mul_le_mul hb1.2.2 hlf
                refine j_iload F d_M_serves_84 5 rfl ?_
                refine j_iloadn F d_M_serves_86 2 rfl rfl ?_
                refine j_ic_gt (tgt := 100) F d_M_serves_87 (by decide) (fun c_87 => ?_) (fun c_87 => ?_)
                · have c_87 : lf < (rwan X n t k v n) := (nI_ltI (by omega) (by omega)).mp c_87
                  refine j_aloadn F d_M_serves_100 0 rfl rfl ?_
                  refine j_get (ci := 6) (v := .ref m3) F in_M hK 0 rfl rfl 6 (by decide) (wm k_472) rfl d_M_serves_101 ?_
                  refine j_iload F d_M_serves_104 7 rfl ?_
                  refine j_iald (v := nI (bN X i)) F hK 3 0 rfl rfl (by omega) (by decide) d_M_serves_106 hb1.1 ?_
                  refine j_iloadn F d_M_serves_107 2 rfl rfl ?_
                  refine j_imul (v := nI ((bN X i) * lf)) F d_M_serves_108 (pk_mul _ _) ?_
                  refine j_iload F d_M_serves_109 5 rfl ?_
                  refine j_idiv (v := nI (((bN X i) * lf) / (rwan X n t k v n))) F d_M_serves_111 (nI_ne0 (by omega) (by omega)) (pk_div (by omega) (by omega) (by omega)) ?_
                  refine j_iadd (v := nI (rspn X n t k v lf (rwan X n t k v n) (i + 1))) F d_M_serves_112 (by rw [nI_add, rspn_s, hask]; unfold shr; rw [if_neg (by omega)]; rfl) ?_
                  refine j_istore (lv' := [(6, .int (nI (rspn X n t k v lf (rwan X n t k v n) (i + 1)))), (0, .ref m0), (1, .int v), (2, .int (nI lf)), (3, .int t), (4, .int k), (5, .int (nI (rwan X n t k v n))), (7, .int (nI i))]) F d_M_serves_113 (by decide) rfl ?_
                  refine j_iinc (v := nI (i + 1)) (lv' := [(7, .int (nI (i + 1))), (6, .int (nI (rspn X n t k v lf (rwan X n t k v n) (i + 1)))), (0, .ref m0), (1, .int v), (2, .int (nI lf)), (3, .int t), (4, .int k), (5, .int (nI (rwan X n t k v n)))]) F d_M_serves_115 7 rfl (jn_inc i) (by decide) rfl ?_
                  refine j_goto (tgt := 56) F d_M_serves_118 (by decide) ?_
                  refine j_lv (lv' := [(0, .ref m0), (1, .int v), (2, .int (nI lf)), (3, .int t), (4, .int k), (5, .int (nI (rwan X n t k v n))), (6, .int (nI (rspn X n t k v lf (rwan X n t k v n) (i + 1)))), (7, .int (nI (i + 1)))]) [2, 3, 4, 5, 6, 7, 1, 0] rfl ?_
                  exact ih56 (i + 1) (by omega) (by omega)
                · have c_87 : ¬ lf < (rwan X n t k v n) := fun h => c_87 ((nI_ltI (by omega) (by omega)).mpr h)
                  refine j_aloadn F d_M_serves_90 0 rfl rfl ?_
                  refine j_get (ci := 6) (v := .ref m3) F in_M hK 0 rfl rfl 6 (by decide) (wm k_472) rfl d_M_serves_91 ?_
                  refine j_iload F d_M_serves_94 7 rfl ?_
                  refine j_iald (v := nI (bN X i)) F hK 3 0 rfl rfl (by omega) (by decide) d_M_serves_96 hb1.1 ?_
                  refine j_goto (tgt := 112) F d_M_serves_97 (by decide) ?_
                  refine j_iadd (v := nI (rspn X n t k v lf (rwan X n t k v n) (i + 1))) F d_M_serves_112 (by rw [nI_add, rspn_s, hask]; unfold shr; rw [if_pos (by omega)]; rfl) ?_
                  refine j_istore (lv' := [(6, .int (nI (rspn X n t k v lf (rwan X n t k v n) (i + 1)))), (0, .ref m0), (1, .int v), (2, .int (nI lf)), (3, .int t), (4, .int k), (5, .int (nI (rwan X n t k v n))), (7, .int (nI i))]) F d_M_serves_113 (by decide) rfl ?_
                  refine j_iinc (v := nI (i + 1)) (lv' := [(7, .int (nI (i + 1))), (6, .int (nI (rspn X n t k v lf (rwan X n t k v n) (i + 1)))), (0, .ref m0), (1, .int v), (2, .int (nI lf)), (3, .int t), (4, .int k), (5, .int (nI (rwan X n t k v n)))]) F d_M_serves_115 7 rfl (jn_inc i) (by decide) rfl ?_
                  refine j_goto (tgt := 56) F d_M_serves_118 (by decide) ?_
                  refine j_lv (lv' := [(0, .ref m0), (1, .int v), (2, .int (nI lf)), (3, .int t), (4, .int k), (5, .int (nI (rwan X n t k v n))), (6, .int (nI (rspn X n t k v lf (rwan X n t k v n) (i + 1)))), (7, .int (nI (i + 1)))]) [2, 3, 4, 5, 6, 7, 1, 0] rfl ?_
                  exact ih56 (i + 1) (by omega) (by omega)
              · refine j_iconst (v := nI 0) F d_M_serves_80 (by decide) ?_
                refine j_goto (tgt := 112) F d_M_serves_81 (by decide) ?_
                refine j_iadd (v := nI (rspn X n t k v lf (rwan X n t k v n) (i + 1))) F d_M_serves_112 (by rw [nI_add, rspn_s, bI_0 c_77]; rfl) ?_
                refine j_istore (lv' := [(6, .int (nI (rspn X n t k v lf (rwan X n t k v n) (i + 1)))), (0, .ref m0), (1, .int v), (2, .int (nI lf)), (3, .int t), (4, .int k), (5, .int (nI (rwan X n t k v n))), (7, .int (nI i))]) F d_M_serves_113 (by decide) rfl ?_
                refine j_iinc (v := nI (i + 1)) (lv' := [(7, .int (nI (i + 1))), (6, .int (nI (rspn X n t k v lf (rwan X n t k v n) (i + 1)))), (0, .ref m0), (1, .int v), (2, .int (nI lf)), (3, .int t), (4, .int k), (5, .int (nI (rwan X n t k v n)))]) F d_M_serves_115 7 rfl (jn_inc i) (by decide) rfl ?_
                refine j_goto (tgt := 56) F d_M_serves_118 (by decide) ?_
                refine j_lv (lv' := [(0, .ref m0), (1, .int v), (2, .int (nI lf)), (3, .int t), (4, .int k), (5, .int (nI (rwan X n t k v n))), (6, .int (nI (rspn X n t k v lf (rwan X n t k v n) (i + 1)))), (7, .int (nI (i + 1)))]) [2, 3, 4, 5, 6, 7, 1, 0] rfl ?_
                exact ih56 (i + 1) (by omega) (by omega)
        refine j_lv (lv' := [(0, .ref m0), (1, .int v), (2, .int (nI lf)), (3, .int t), (4, .int k), (5, .int (nI (rwan X n t k v n))), (6, .int (nI 0)), (7, .int (nI 0))]) [2, 3, 4, 5, 6, 7, 1, 0] rfl ?_
        exact loop56 (n + 1) 0 (by omega) (by omega)
      · have c_12 : ¬ n ≤ i := fun h => c_12 ((nI_leI (by omega) (by omega)).mpr h)
        refine j_iload F d_M_serves_15 5 rfl ?_
        refine j_aloadn F d_M_serves_17 0 rfl rfl ?_
        refine j_iload F d_M_serves_18 6 rfl ?_
        refine j_iloadn F d_M_serves_20 1 rfl rfl ?_
        refine j_iloadn F d_M_serves_21 3 rfl rfl ?_
        refine j_iload F d_M_serves_22 4 rfl ?_
        refine j_goi (wc := [(m0, .inr (6, [.int th, .int now, .int (nI n), .int rf, .ref m1, .ref m2, .ref m3, .ref m4, .ref m5, .ref m6, .ref m7, .ref m8, .ref m9, .ref m10])), (m1, .inl (cA, 80, .inl (X 0))), (m2, .inl (cA, 80, .inl (X 1))), (m3, .inl (cA, 80, .inl (X 2))), (m4, .inl (cA, 80, .inl (X 3))), (m5, .inl (cA, 80, .inl (X 4))), (m6, .inl (cA, 20, .inl sl)), (m7, .inl (cA, 10, .inl tt)), (m8, .inl (cA, 10, .inl sm)), (m9, .inl (cA, 10, .inl hs)), (m10, .inl (cA, 64, .inl lt))]) (wr := []) hA [0, 1, 2, 3, 4, 5, 6, 7, 8, 9, 10] [] rfl rfl (by decide) (by decide) (fun H locs ls hP hD hl => va_runV (As := [.int (nI i), .int v, .int t, .int k]) (rest := [.int (nI (rwan X n t k v i))]) F (ct_M_asks l D cA m0 m1 m2 m3 m4 m5 m6 m7 m8 m9 m10 th now n rf X sl tt sm hs lt hA0 i (by omega) v t k  H.size) ⟨callB_of 4 F.2.2.2.2 (gd k_592) rfl rfl rfl (F.2.2.2.2 _ (wm k_7)) (F.2.2.2.2 _ (wm k_589)) (by decide +kernel) ⟨by decide, by decide⟩, F.2.2.2.2 _ (wm k_591), F.2.2.2.2 _ (wm ks_35)⟩ (pre_V rfl hK hN hP hD [0, 1, 2, 3, 4, 5, 6, 7, 8, 9, 10] rfl (by decide) 0 rfl rfl) rfl rfl hl.1 rfl (lv_room (Nat.le_of_ble_eq_true rfl)) d_M_serves_24 ⟨by decide, by decide⟩) (fun r24 u24 hw24 => ?_)
        subst hw24
        refine j_ws (ws' := [(m0, .inr (6, [.int th, .int now, .int (nI n), .int rf, .ref m1, .ref m2, .ref m3, .ref m4, .ref m5, .ref m6, .ref m7, .ref m8, .ref m9, .ref m10])), (m1, .inl (cA, 80, .inl (X 0))), (m2, .inl (cA, 80, .inl (X 1))), (m3, .inl (cA, 80, .inl (X 2))), (m4, .inl (cA, 80, .inl (X 3))), (m5, .inl (cA, 80, .inl (X 4))), (m6, .inl (cA, 20, .inl sl)), (m7, .inl (cA, 10, .inl tt)), (m8, .inl (cA, 10, .inl sm)), (m9, .inl (cA, 10, .inl hs)), (m10, .inl (cA, 64, .inl lt))]) [0, 1, 2, 3, 4, 5, 6, 7, 8, 9, 10] (by decide) rfl ?_
        refine j_if_eq (tgt := 40) F d_M_serves_27 (by decide) (fun c_27 => ?_) (fun c_27 => ?_)
        · refine j_iconst (v := nI 0) F d_M_serves_40 (by decide) ?_
          refine j_iadd (v := nI (rwan X n t k v (i + 1))) F d_M_serves_41 (by rw [nI_add, rwan_s, bI_0 c_27]; rfl) ?_
          refine j_istore (lv' := [(5, .int (nI (rwan X n t k v (i + 1)))), (0, .ref m0), (1, .int v), (2, .int (nI lf)), (3, .int t), (4, .int k), (6, .int (nI i))]) F d_M_serves_42 (by decide) rfl ?_
          refine j_iinc (v := nI (i + 1)) (lv' := [(6, .int (nI (i + 1))), (5, .int (nI (rwan X n t k v (i + 1)))), (0, .ref m0), (1, .int v), (2, .int (nI lf)), (3, .int t), (4, .int k)]) F d_M_serves_44 6 rfl (jn_inc i) (by decide) rfl ?_
          refine j_goto (tgt := 6) F d_M_serves_47 (by decide) ?_
          refine j_lv (lv' := [(0, .ref m0), (1, .int v), (2, .int (nI lf)), (3, .int t), (4, .int k), (5, .int (nI (rwan X n t k v (i + 1)))), (6, .int (nI (i + 1)))]) [2, 3, 4, 5, 6, 1, 0] rfl ?_
          exact ih6 (i + 1) (by omega) (by omega)
        · have hask := bI_1 c_27
          have hb1 := bN_eq (hA0.2 i (by omega)) (asB_ask hask).1
          have ha1 := aN_eq (hA0.2 i (by omega)) (asB_ask hask).1
          have hb12 := hb1.2
          have ha12 := ha1.2
          have hbl : bN X i * lf ≤ 1000 * 1000 := Nat.mul_le_mul hb1.2.2 hlf
          refine j_aloadn F d_M_serves_30 0 rfl rfl ?_
          refine j_get (ci := 6) (v := .ref m3) F in_M hK 0 rfl rfl 6 (by decide) (wm k_472) rfl d_M_serves_31 ?_
          refine j_iload F d_M_serves_34 6 rfl ?_
          refine j_iald (v := nI (bN X i)) F hK 3 0 rfl rfl (by omega) (by decide) d_M_serves_36 hb1.1 ?_
          refine j_goto (tgt := 41) F d_M_serves_37 (by decide) ?_
          refine j_iadd (v := nI (rwan X n t k v (i + 1))) F d_M_serves_41 (by rw [nI_add, rwan_s, bI_1 c_27]; rfl) ?_
          refine j_istore (lv' := [(5, .int (nI (rwan X n t k v (i + 1)))), (0, .ref m0), (1, .int v), (2, .int (nI lf)), (3, .int t), (4, .int k), (6, .int (nI i))]) F d_M_serves_42 (by decide) rfl ?_
          refine j_iinc (v := nI (i + 1)) (lv' := [(6, .int (nI (i + 1))), (5, .int (nI (rwan X n t k v (i + 1)))), (0, .ref m0), (1, .int v), (2, .int (nI lf)), (3, .int t), (4, .int k)]) F d_M_serves_44 6 rfl (jn_inc i) (by decide) rfl ?_
          refine j_goto (tgt := 6) F d_M_serves_47 (by decide) ?_
          refine j_lv (lv' := [(0, .ref m0), (1, .int v), (2, .int (nI lf)), (3, .int t), (4, .int k), (5, .int (nI (rwan X n t k v (i + 1)))), (6, .int (nI (i + 1)))]) [2, 3, 4, 5, 6, 1, 0] rfl ?_
          exact ih6 (i + 1) (by omega) (by omega)
  refine j_lv (lv' := [(0, .ref m0), (1, .int v), (2, .int (nI lf)), (3, .int t), (4, .int k), (5, .int (nI 0)), (6, .int (nI 0))]) [2, 3, 4, 5, 6, 1, 0] rfl ?_
  exact loop6 (n + 1) 0 (by omega) (by omega)

def rm_M_quota : Room := { frames := 4, cells := 0, slots := 0, locals := 99 }
set_option maxHeartbeats 4000000 in
set_option maxRecDepth 100000 in
theorem ct_M_quota_ok (l : Launch) (D : va_G) (cA : ClassId) (m0 m1 m2 m3 m4 m5 m6 m7 m8 m9 m10 : Nat) (th now : Int32) (n : Nat) (rf : Int32) (X : AF) (sl tt sm hs lt : Nat → Int32) (hA0 : aok X n) (b : Nat) (hb : b < 10) (t k : Int32) (ht : win t (nI 0) (nI 10000) = true) (hk : win k (nI 0) (nI 10000) = true) : Ci (S := (Nat → Int32)) l y_M_quota (Cond.code y_M_quota c_M_quota 7 (some .int) :: WD) rm_M_quota D vwCl [(cA, .int)] nws [.ref m0, .int (nI b), .int t, .int k] [(m0, .inr (6, [.int th, .int now, .int (nI n), .int rf, .ref m1, .ref m2, .ref m3, .ref m4, .ref m5, .ref m6, .ref m7, .ref m8, .ref m9, .ref m10])), (m1, .inl (cA, 80, .inl (X 0))), (m2, .inl (cA, 80, .inl (X 1))), (m3, .inl (cA, 80, .inl (X 2))), (m4, .inl (cA, 80, .inl (X 3))), (m5, .inl (cA, 80, .inl (X 4))), (m6, .inl (cA, 20, .inl sl)), (m7, .inl (cA, 10, .inl tt)), (m8, .inl (cA, 10, .inl sm)), (m9, .inl (cA, 10, .inl hs)), (m10, .inl (cA, 64, .inl lt))] 0 0 (fun r _ => r = quoP X n t k b) (fun u => [(m0, .inr (6, [.int (nI 0), .int now, .int (nI n), .int rf, .ref m1, .ref m2, .ref m3, .ref m4, .ref m5, .ref m6, .ref m7, .ref m8, .ref m9, .ref m10])), (m1, .inl (cA, 80, .inl (X 0))), (m2, .inl (cA, 80, .inl (X 1))), (m3, .inl (cA, 80, .inl (X 2))), (m4, .inl (cA, 80, .inl (X 3))), (m5, .inl (cA, 80, .inl (X 4))), (m6, .inl (cA, 20, .inl sl)), (m7, .inl (cA, 10, .inl tt)), (m8, .inl (cA, 10, .inl sm)), (m9, .inl (cA, 10, .inl u)), (m10, .inl (cA, 64, .inl lt))]) := by
  refine Ci.of (cc := c_M_quota) (nL := 7) (lv := [(0, .ref m0), (1, .int (nI b)), (2, .int t), (3, .int k)]) (by decide) rfl (Nat.le_of_ble_eq_true rfl) rfl ?_
  intro p e s m args below meth cd A Q F hK hN hA ret
  have h80 := hA0.1
  refine j_aloadn F d_M_quota_0 0 rfl rfl ?_
  refine j_iloadn F d_M_quota_1 1 rfl rfl ?_
  refine j_iconst (v := nI 0) F d_M_quota_2 (by decide) ?_
  refine j_bipush (v := nI 9) F d_M_quota_3 (by decide) ?_
  refine j_goi (wc := []) (wr := [(m0, .inr (6, [.int th, .int now, .int (nI n), .int rf, .ref m1, .ref m2, .ref m3, .ref m4, .ref m5, .ref m6, .ref m7, .ref m8, .ref m9, .ref m10])), (m1, .inl (cA, 80, .inl (X 0))), (m2, .inl (cA, 80, .inl (X 1))), (m3, .inl (cA, 80, .inl (X 2))), (m4, .inl (cA, 80, .inl (X 3))), (m5, .inl (cA, 80, .inl (X 4))), (m6, .inl (cA, 20, .inl sl)), (m7, .inl (cA, 10, .inl tt)), (m8, .inl (cA, 10, .inl sm)), (m9, .inl (cA, 10, .inl hs)), (m10, .inl (cA, 64, .inl lt))]) hA [] [0, 1, 2, 3, 4, 5, 6, 7, 8, 9, 10] rfl rfl (by decide) (by decide) (fun H locs ls hP hD hl => va_runS (As := [.int (nI b), .int (nI 0), .int (nI 9)]) (rest := [.ref m0]) F (ct_M_in l D cA (nI b) (nI 0) (nI 9) H.size) ⟨callB_of 3 F.2.2.2.2 (gd k_523) rfl rfl rfl (F.2.2.2.2 _ (wm k_7)) (F.2.2.2.2 _ (wm k_521)) (by decide +kernel) ⟨by decide, by decide⟩, F.2.2.2.2 _ (wm k_522)⟩ (pre_S hK hN hP hD [] rfl (by decide)) rfl rfl hl.1 rfl (lv_room (Nat.le_of_ble_eq_true rfl)) d_M_quota_5 ⟨by decide, by decide⟩) (fun r5 u5 hw5 => ?_)
  subst hw5
  refine j_ws (ws' := [(m0, .inr (6, [.int th, .int now, .int (nI n), .int rf, .ref m1, .ref m2, .ref m3, .ref m4, .ref m5, .ref m6, .ref m7, .ref m8, .ref m9, .ref m10])), (m1, .inl (cA, 80, .inl (X 0))), (m2, .inl (cA, 80, .inl (X 1))), (m3, .inl (cA, 80, .inl (X 2))), (m4, .inl (cA, 80, .inl (X 3))), (m5, .inl (cA, 80, .inl (X 4))), (m6, .inl (cA, 20, .inl sl)), (m7, .inl (cA, 10, .inl tt)), (m8, .inl (cA, 10, .inl sm)), (m9, .inl (cA, 10, .inl hs)), (m10, .inl (cA, 64, .inl lt))]) [0, 1, 2, 3, 4, 5, 6, 7, 8, 9, 10] (by decide) rfl ?_
  refine j_iloadn F d_M_quota_8 2 rfl rfl ?_
  refine j_iloadn F d_M_quota_9 3 rfl rfl ?_
  refine j_goi (wc := [(m0, .inr (6, [.int th, .int now, .int (nI n), .int rf, .ref m1, .ref m2, .ref m3, .ref m4, .ref m5, .ref m6, .ref m7, .ref m8, .ref m9, .ref m10])), (m1, .inl (cA, 80, .inl (X 0))), (m2, .inl (cA, 80, .inl (X 1))), (m3, .inl (cA, 80, .inl (X 2))), (m4, .inl (cA, 80, .inl (X 3))), (m5, .inl (cA, 80, .inl (X 4))), (m6, .inl (cA, 20, .inl sl)), (m7, .inl (cA, 10, .inl tt)), (m8, .inl (cA, 10, .inl sm)), (m9, .inl (cA, 10, .inl hs)), (m10, .inl (cA, 64, .inl lt))]) (wr := []) hA [0, 1, 2, 3, 4, 5, 6, 7, 8, 9, 10] [] rfl rfl (by decide) (by decide) (fun H locs ls hP hD hl => va_runV (As := [.int (bI (win (nI b) (nI 0) (nI 9))), .int t, .int k]) (rest := []) F (ct_M_isAsked_ok l D cA m0 m1 m2 m3 m4 m5 m6 m7 m8 m9 m10 th now n rf X sl tt sm hs lt hA0 (win (nI b) (nI 0) (nI 9)) t k (by rw [win_of rfl (by omega) (by decide), ht, hk]; rfl) H.size) ⟨callB_of 3 F.2.2.2.2 (gd k_540) rfl rfl rfl (F.2.2.2.2 _ (wm k_7)) (F.2.2.2.2 _ (wm k_537)) (by decide +kernel) ⟨by decide, by decide⟩, F.2.2.2.2 _ (wm k_539), F.2.2.2.2 _ (wm ks_26)⟩ (pre_V rfl hK hN hP hD [0, 1, 2, 3, 4, 5, 6, 7, 8, 9, 10] rfl (by decide) 0 rfl rfl) rfl rfl hl.1 rfl (lv_room (Nat.le_of_ble_eq_true rfl)) d_M_quota_10 ⟨by decide, by decide⟩) (fun r10 u10 hw10 => ?_)
  subst hw10
  refine j_ws (ws' := [(m0, .inr (6, [.int (nI 0), .int now, .int (nI n), .int rf, .ref m1, .ref m2, .ref m3, .ref m4, .ref m5, .ref m6, .ref m7, .ref m8, .ref m9, .ref m10])), (m1, .inl (cA, 80, .inl (X 0))), (m2, .inl (cA, 80, .inl (X 1))), (m3, .inl (cA, 80, .inl (X 2))), (m4, .inl (cA, 80, .inl (X 3))), (m5, .inl (cA, 80, .inl (X 4))), (m6, .inl (cA, 20, .inl sl)), (m7, .inl (cA, 10, .inl tt)), (m8, .inl (cA, 10, .inl sm)), (m9, .inl (cA, 10, .inl hs)), (m10, .inl (cA, 64, .inl lt))]) [0, 1, 2, 3, 4, 5, 6, 7, 8, 9, 10] (by decide) rfl ?_
  refine j_if_ne (tgt := 18) F d_M_quota_13 (by decide) (fun c_13 => ?_) (fun c_13 => ?_)
  · refine j_iconst (v := nI 0) F d_M_quota_18 (by decide) ?_
    refine j_istore (lv' := [(4, .int (nI 0)), (0, .ref m0), (1, .int (nI b)), (2, .int t), (3, .int k)]) F d_M_quota_19 (by decide) rfl ?_
    have loop21 : ∀ (fuel : Nat) (i : Nat) (g : Nat → Int32) (hfuel21 : 10 - i < fuel) (hi : i ≤ 10) (hg : ∀ j, j < i → g j = nI 0), J p l e rm_M_quota s m args below meth cd D vwCl A s.heap 7 0 0 Q [(m0, .inr (6, [.int (nI 0), .int now, .int (nI n), .int rf, .ref m1, .ref m2, .ref m3, .ref m4, .ref m5, .ref m6, .ref m7, .ref m8, .ref m9, .ref m10])), (m1, .inl (cA, 80, .inl (X 0))), (m2, .inl (cA, 80, .inl (X 1))), (m3, .inl (cA, 80, .inl (X 2))), (m4, .inl (cA, 80, .inl (X 3))), (m5, .inl (cA, 80, .inl (X 4))), (m6, .inl (cA, 20, .inl sl)), (m7, .inl (cA, 10, .inl tt)), (m8, .inl (cA, 10, .inl sm)), (m9, .inl (cA, 10, .inl g)), (m10, .inl (cA, 64, .inl lt))] [(0, .ref m0), (1, .int (nI b)), (2, .int t), (3, .int k), (4, .int (nI i))] 21 [] := by
      intro fuel
      induction fuel with
      | zero => intro i g hfuel; exact absurd hfuel (Nat.not_lt_zero _)
      | succ fuel ih21 =>
        intro i g hfuel21 hi hg
        refine j_iload F d_M_quota_21 4 rfl ?_
        refine j_bipush (v := nI 10) F d_M_quota_23 (by decide) ?_
        refine j_ic_ge (tgt := 42) F d_M_quota_25 (by decide) (fun c_25 => ?_) (fun c_25 => ?_)
        · have c_25 : 10 ≤ i := (nI_leI (by omega) (by omega)).mp c_25
          refine j_ext (ws' := [(m0, .inr (6, [.int (nI 0), .int now, .int (nI n), .int rf, .ref m1, .ref m2, .ref m3, .ref m4, .ref m5, .ref m6, .ref m7, .ref m8, .ref m9, .ref m10])), (m1, .inl (cA, 80, .inl (X 0))), (m2, .inl (cA, 80, .inl (X 1))), (m3, .inl (cA, 80, .inl (X 2))), (m4, .inl (cA, 80, .inl (X 3))), (m5, .inl (cA, 80, .inl (X 4))), (m6, .inl (cA, 20, .inl sl)), (m7, .inl (cA, 10, .inl tt)), (m8, .inl (cA, 10, .inl sm)), (m9, .inl (cA, 10, .inl (fun _ => nI 0))), (m10, .inl (cA, 64, .inl lt))]) 9 (g := fun _ => nI 0) rfl (fun j hj => hg j (by omega)) rfl ?_
          refine j_sipush (v := nI 1000) F d_M_quota_42 (by decide) ?_
          refine j_istore (lv' := [(4, .int (nI 1000)), (0, .ref m0), (1, .int (nI b)), (2, .int t), (3, .int k)]) F d_M_quota_45 (by decide) rfl ?_
          refine j_aloadn F d_M_quota_47 1 rfl rfl ?_
          refine j_iconst (v := (-1)) F d_M_quota_48 (by decide) ?_
          refine j_iloadn F d_M_quota_49 3 rfl rfl ?_
          refine j_iloadn F d_M_quota_50 4 rfl rfl ?_
          refine j_goi (wc := [(m0, .inr (6, [.int (nI 0), .int now, .int (nI n), .int rf, .ref m1, .ref m2, .ref m3, .ref m4, .ref m5, .ref m6, .ref m7, .ref m8, .ref m9, .ref m10])), (m1, .inl (cA, 80, .inl (X 0))), (m2, .inl (cA, 80, .inl (X 1))), (m3, .inl (cA, 80, .inl (X 2))), (m4, .inl (cA, 80, .inl (X 3))), (m5, .inl (cA, 80, .inl (X 4))), (m6, .inl (cA, 20, .inl sl)), (m7, .inl (cA, 10, .inl tt)), (m8, .inl (cA, 10, .inl sm)), (m9, .inl (cA, 10, .inl (fun _ => nI 0))), (m10, .inl (cA, 64, .inl lt))]) (wr := []) hA [0, 1, 2, 3, 4, 5, 6, 7, 8, 9, 10] [] rfl rfl (by decide) (by decide) (fun H locs ls hP hD hl => va_runV (As := [.int (-1), .int t, .int k]) (rest := []) F (ct_M_next l D cA m0 m1 m2 m3 m4 m5 m6 m7 m8 m9 m10 (nI 0) now n rf X sl tt sm (fun _ => nI 0) lt hA0 (-1) t k  H.size) ⟨callB_of 3 F.2.2.2.2 (gd k_548) rfl rfl rfl (F.2.2.2.2 _ (wm k_7)) (F.2.2.2.2 _ (wm k_545)) (by decide +kernel) ⟨by decide, by decide⟩, F.2.2.2.2 _ (wm k_547), F.2.2.2.2 _ (wm ks_28)⟩ (pre_V rfl hK hN hP hD [0, 1, 2, 3, 4, 5, 6, 7, 8, 9, 10] rfl (by decide) 0 rfl rfl) rfl rfl hl.1 rfl (lv_room (Nat.le_of_ble_eq_true rfl)) d_M_quota_51 ⟨by decide, by decide⟩) (fun r51 u51 hw51 => ?_)
          subst hw51
          refine j_ws (ws' := [(m0, .inr (6, [.int (nI 0), .int now, .int (nI n), .int rf, .ref m1, .ref m2, .ref m3, .ref m4, .ref m5, .ref m6, .ref m7, .ref m8, .ref m9, .ref m10])), (m1, .inl (cA, 80, .inl (X 0))), (m2, .inl (cA, 80, .inl (X 1))), (m3, .inl (cA, 80, .inl (X 2))), (m4, .inl (cA, 80, .inl (X 3))), (m5, .inl (cA, 80, .inl (X 4))), (m6, .inl (cA, 20, .inl sl)), (m7, .inl (cA, 10, .inl tt)), (m8, .inl (cA, 10, .inl sm)), (m9, .inl (cA, 10, .inl (fun _ => nI 0))), (m10, .inl (cA, 64, .inl lt))]) [0, 1, 2, 3, 4, 5, 6, 7, 8, 9, 10] (by decide) rfl ?_
          refine j_top (y := oI (fo X n t k 0)) (by rw [nxt_0 t k hA0]; rfl) ?_
          refine j_istore (lv' := [(5, .int (oI (fo X n t k 0))), (4, .int (nI 1000)), (0, .ref m0), (1, .int (nI b)), (2, .int t), (3, .int k)]) F d_M_quota_54 (by decide) rfl ?_
          refine j_iconst (v := (-1)) F d_M_quota_56 (by decide) ?_
          refine j_istore (lv' := [(6, .int (-1)), (5, .int (oI (fo X n t k 0))), (4, .int (nI 1000)), (0, .ref m0), (1, .int (nI b)), (2, .int t), (3, .int k)]) F d_M_quota_57 (by decide) rfl ?_
          have loop59 : ∀ (fuel : Nat) (j : Nat) (hfuel59 : (ordL X n t k).length - j < fuel) (hj0 : j ≤ (ordL X n t k).length), J p l e rm_M_quota s m args below meth cd D vwCl A s.heap 7 0 0 Q [(m0, .inr (6, [.int (nI 0), .int now, .int (nI n), .int rf, .ref m1, .ref m2, .ref m3, .ref m4, .ref m5, .ref m6, .ref m7, .ref m8, .ref m9, .ref m10])), (m1, .inl (cA, 80, .inl (X 0))), (m2, .inl (cA, 80, .inl (X 1))), (m3, .inl (cA, 80, .inl (X 2))), (m4, .inl (cA, 80, .inl (X 3))), (m5, .inl (cA, 80, .inl (X 4))), (m6, .inl (cA, 20, .inl sl)), (m7, .inl (cA, 10, .inl tt)), (m8, .inl (cA, 10, .inl sm)), (m9, .inl (cA, 10, .inl ((rq X n t k j).2.2))), (m10, .inl (cA, 64, .inl lt))] [(0, .ref m0), (1, .int (nI b)), (2, .int t), (3, .int k), (4, .int (nI ((rq X n t k j).2.1))), (5, .int (oI (fo X n t k j))), (6, .int ((rq X n t k j).1))] 59 [] := by
            intro fuel
            induction fuel with
            | zero => intro j hfuel; exact absurd hfuel (Nat.not_lt_zero _)
            | succ fuel ih59 =>
              intro j hfuel59 hj0
              rcases Nat.lt_or_ge j (ordL X n t k).length with hj | hj
              · rw [fo_t hj]
                have hm := ordL_lt j hj
                have hrq := rq_le X n t k j
                show J p l e rm_M_quota s m args below meth cd D vwCl A s.heap 7 0 0 Q [(m0, .inr (6, [.int (nI 0), .int now, .int (nI n), .int rf, .ref m1, .ref m2, .ref m3, .ref m4, .ref m5, .ref m6, .ref m7, .ref m8, .ref m9, .ref m10])), (m1, .inl (cA, 80, .inl (X 0))), (m2, .inl (cA, 80, .inl (X 1))), (m3, .inl (cA, 80, .inl (X 2))), (m4, .inl (cA, 80, .inl (X 3))), (m5, .inl (cA, 80, .inl (X 4))), (m6, .inl (cA, 20, .inl sl)), (m7, .inl (cA, 10, .inl tt)), (m8, .inl (cA, 10, .inl sm)), (m9, .inl (cA, 10, .inl ((rq X n t k j).2.2))), (m10, .inl (cA, 64, .inl lt))] [(0, .ref m0), (1, .int (nI b)), (2, .int t), (3, .int k), (4, .int (nI ((rq X n t k j).2.1))), (5, .int (nI ((ordL X n t k).getD j 0))), (6, .int ((rq X n t k j).1))] 59 []
                refine j_iload F d_M_quota_59 5 rfl ?_
                refine j_if_lt (tgt := 125) F d_M_quota_61 (by decide) (fun c_61 => ?_) (fun c_61 => ?_)
                · have c_61 : ((ordL X n t k).getD j 0) < 0 := (nI_ltI (by omega) (by omega)).mp c_61
                  exact absurd c_61 (by omega)
                · have c_61 : ¬ ((ordL X n t k).getD j 0) < 0 := fun h => c_61 ((nI_ltI (by omega) (by omega)).mpr h)
                  refine j_aloadn F d_M_quota_64 0 rfl rfl ?_
                  refine j_get (ci := 6) (v := .ref m1) F in_M hK 0 rfl rfl 4 (by decide) (wm k_470) rfl d_M_quota_65 ?_
                  refine j_iload F d_M_quota_68 5 rfl ?_
                  refine j_iald (v := (X 0) ((ordL X n t k).getD j 0)) F hK 1 0 rfl rfl (by omega) (by decide) d_M_quota_70 rfl ?_
                  refine j_iconst (v := nI 4) F d_M_quota_71 (by decide) ?_
                  refine j_ic_ne (tgt := 108) F d_M_quota_72 (by decide) (fun c_72 => ?_) (fun c_72 => ?_)
                  · have ho := rq_f (X := X) (n := n) (t := t) (k := k) (j := j) (fun h => c_72 h.1)
                    rw [← ho]
                    refine j_aloadn F d_M_quota_108 0 rfl rfl ?_
                    refine j_aloadn F d_M_quota_109 0 rfl rfl ?_
                    refine j_iload F d_M_quota_110 5 rfl ?_
                    refine j_goi (wc := [(m0, .inr (6, [.int (nI 0), .int now, .int (nI n), .int rf, .ref m1, .ref m2, .ref m3, .ref m4, .ref m5, .ref m6, .ref m7, .ref m8, .ref m9, .ref m10])), (m1, .inl (cA, 80, .inl (X 0))), (m2, .inl (cA, 80, .inl (X 1))), (m3, .inl (cA, 80, .inl (X 2))), (m4, .inl (cA, 80, .inl (X 3))), (m5, .inl (cA, 80, .inl (X 4))), (m6, .inl (cA, 20, .inl sl)), (m7, .inl (cA, 10, .inl tt)), (m8, .inl (cA, 10, .inl sm)), (m9, .inl (cA, 10, .inl ((rq X n t k (j + 1)).2.2))), (m10, .inl (cA, 64, .inl lt))]) (wr := []) hA [0, 1, 2, 3, 4, 5, 6, 7, 8, 9, 10] [] rfl rfl (by decide) (by decide) (fun H locs ls hP hD hl => va_runV (As := [.int (nI ((ordL X n t k).getD j 0))]) (rest := [.ref m0]) F (ct_M_order l D cA m0 m1 m2 m3 m4 m5 m6 m7 m8 m9 m10 (nI 0) now n rf X sl tt sm ((rq X n t k (j + 1)).2.2) lt hA0 ((ordL X n t k).getD j 0) (by omega)  H.size) ⟨callB_of 1 F.2.2.2.2 (gd k_560) rfl rfl rfl (F.2.2.2.2 _ (wm k_7)) (F.2.2.2.2 _ (wm k_557)) (by decide +kernel) ⟨by decide, by decide⟩, F.2.2.2.2 _ (wm k_559), F.2.2.2.2 _ (wm ks_31)⟩ (pre_V rfl hK hN hP hD [0, 1, 2, 3, 4, 5, 6, 7, 8, 9, 10] rfl (by decide) 0 rfl rfl) rfl rfl hl.1 rfl (lv_room (Nat.le_of_ble_eq_true rfl)) d_M_quota_112 ⟨by decide, by decide⟩) (fun r112 u112 hw112 => ?_)
                    subst hw112
                    refine j_ws (ws' := [(m0, .inr (6, [.int (nI 0), .int now, .int (nI n), .int rf, .ref m1, .ref m2, .ref m3, .ref m4, .ref m5, .ref m6, .ref m7, .ref m8, .ref m9, .ref m10])), (m1, .inl (cA, 80, .inl (X 0))), (m2, .inl (cA, 80, .inl (X 1))), (m3, .inl (cA, 80, .inl (X 2))), (m4, .inl (cA, 80, .inl (X 3))), (m5, .inl (cA, 80, .inl (X 4))), (m6, .inl (cA, 20, .inl sl)), (m7, .inl (cA, 10, .inl tt)), (m8, .inl (cA, 10, .inl sm)), (m9, .inl (cA, 10, .inl ((rq X n t k (j + 1)).2.2))), (m10, .inl (cA, 64, .inl lt))]) [0, 1, 2, 3, 4, 5, 6, 7, 8, 9, 10] (by decide) rfl ?_
                    refine j_iloadn F d_M_quota_115 2 rfl rfl ?_
                    refine j_iloadn F d_M_quota_116 3 rfl rfl ?_
                    refine j_goi (wc := [(m0, .inr (6, [.int (nI 0), .int now, .int (nI n), .int rf, .ref m1, .ref m2, .ref m3, .ref m4, .ref m5, .ref m6, .ref m7, .ref m8, .ref m9, .ref m10])), (m1, .inl (cA, 80, .inl (X 0))), (m2, .inl (cA, 80, .inl (X 1))), (m3, .inl (cA, 80, .inl (X 2))), (m4, .inl (cA, 80, .inl (X 3))), (m5, .inl (cA, 80, .inl (X 4))), (m6, .inl (cA, 20, .inl sl)), (m7, .inl (cA, 10, .inl tt)), (m8, .inl (cA, 10, .inl sm)), (m9, .inl (cA, 10, .inl ((rq X n t k (j + 1)).2.2))), (m10, .inl (cA, 64, .inl lt))]) (wr := []) hA [0, 1, 2, 3, 4, 5, 6, 7, 8, 9, 10] [] rfl rfl (by decide) (by decide) (fun H locs ls hP hD hl => va_runV (As := [.int (nI (ky X ((ordL X n t k).getD j 0))), .int t, .int k]) (rest := []) F (ct_M_next l D cA m0 m1 m2 m3 m4 m5 m6 m7 m8 m9 m10 (nI 0) now n rf X sl tt sm ((rq X n t k (j + 1)).2.2) lt hA0 (nI (ky X ((ordL X n t k).getD j 0))) t k  H.size) ⟨callB_of 3 F.2.2.2.2 (gd k_548) rfl rfl rfl (F.2.2.2.2 _ (wm k_7)) (F.2.2.2.2 _ (wm k_545)) (by decide +kernel) ⟨by decide, by decide⟩, F.2.2.2.2 _ (wm k_547), F.2.2.2.2 _ (wm ks_28)⟩ (pre_V rfl hK hN hP hD [0, 1, 2, 3, 4, 5, 6, 7, 8, 9, 10] rfl (by decide) 0 rfl rfl) rfl rfl hl.1 rfl (lv_room (Nat.le_of_ble_eq_true rfl)) d_M_quota_117 ⟨by decide, by decide⟩) (fun r117 u117 hw117 => ?_)
                    subst hw117
                    refine j_ws (ws' := [(m0, .inr (6, [.int (nI 0), .int now, .int (nI n), .int rf, .ref m1, .ref m2, .ref m3, .ref m4, .ref m5, .ref m6, .ref m7, .ref m8, .ref m9, .ref m10])), (m1, .inl (cA, 80, .inl (X 0))), (m2, .inl (cA, 80, .inl (X 1))), (m3, .inl (cA, 80, .inl (X 2))), (m4, .inl (cA, 80, .inl (X 3))), (m5, .inl (cA, 80, .inl (X 4))), (m6, .inl (cA, 20, .inl sl)), (m7, .inl (cA, 10, .inl tt)), (m8, .inl (cA, 10, .inl sm)), (m9, .inl (cA, 10, .inl ((rq X n t k (j + 1)).2.2))), (m10, .inl (cA, 64, .inl lt))]) [0, 1, 2, 3, 4, 5, 6, 7, 8, 9, 10] (by decide) rfl ?_
                    refine j_top (y := oI (fo X n t k (j + 1))) (by rw [nxt_s t k hA0 hj]; rfl) ?_
                    refine j_istore (lv' := [(5, .int (oI (fo X n t k (j + 1)))), (0, .ref m0), (1, .int (nI b)), (2, .int t), (3, .int k), (4, .int (nI ((rq X n t k (j + 1)).2.1))), (6, .int ((rq X n t k (j + 1)).1))]) F d_M_quota_120 (by decide) rfl ?_
                    refine j_goto (tgt := 59) F d_M_quota_122 (by decide) ?_
                    refine j_lv (lv' := [(0, .ref m0), (1, .int (nI b)), (2, .int t), (3, .int k), (4, .int (nI ((rq X n t k (j + 1)).2.1))), (5, .int (oI (fo X n t k (j + 1)))), (6, .int ((rq X n t k (j + 1)).1))]) [1, 2, 3, 4, 5, 0, 6] rfl ?_
                    exact ih59 (j + 1) (by omega) (by omega)
                  · refine j_aloadn F d_M_quota_75 0 rfl rfl ?_
                    refine j_get (ci := 6) (v := .ref m4) F in_M hK 0 rfl rfl 7 (by decide) (wm k_473) rfl d_M_quota_76 ?_
                    refine j_iload F d_M_quota_79 5 rfl ?_
                    refine j_iald (v := (X 3) ((ordL X n t k).getD j 0)) F hK 4 0 rfl rfl (by omega) (by decide) d_M_quota_81 rfl ?_
                    refine j_iload F d_M_quota_82 6 rfl ?_
                    refine j_ic_eq (tgt := 108) F d_M_quota_84 (by decide) (fun c_84 => ?_) (fun c_84 => ?_)
                    · have ho := rq_f (X := X) (n := n) (t := t) (k := k) (j := j) (fun h => h.2 c_84)
                      rw [← ho]
                      refine j_aloadn F d_M_quota_108 0 rfl rfl ?_
                      refine j_aloadn F d_M_quota_109 0 rfl rfl ?_
                      refine j_iload F d_M_quota_110 5 rfl ?_
                      refine j_goi (wc := [(m0, .inr (6, [.int (nI 0), .int now, .int (nI n), .int rf, .ref m1, .ref m2, .ref m3, .ref m4, .ref m5, .ref m6, .ref m7, .ref m8, .ref m9, .ref m10])), (m1, .inl (cA, 80, .inl (X 0))), (m2, .inl (cA, 80, .inl (X 1))), (m3, .inl (cA, 80, .inl (X 2))), (m4, .inl (cA, 80, .inl (X 3))), (m5, .inl (cA, 80, .inl (X 4))), (m6, .inl (cA, 20, .inl sl)), (m7, .inl (cA, 10, .inl tt)), (m8, .inl (cA, 10, .inl sm)), (m9, .inl (cA, 10, .inl ((rq X n t k (j + 1)).2.2))), (m10, .inl (cA, 64, .inl lt))]) (wr := []) hA [0, 1, 2, 3, 4, 5, 6, 7, 8, 9, 10] [] rfl rfl (by decide) (by decide) (fun H locs ls hP hD hl => va_runV (As := [.int (nI ((ordL X n t k).getD j 0))]) (rest := [.ref m0]) F (ct_M_order l D cA m0 m1 m2 m3 m4 m5 m6 m7 m8 m9 m10 (nI 0) now n rf X sl tt sm ((rq X n t k (j + 1)).2.2) lt hA0 ((ordL X n t k).getD j 0) (by omega)  H.size) ⟨callB_of 1 F.2.2.2.2 (gd k_560) rfl rfl rfl (F.2.2.2.2 _ (wm k_7)) (F.2.2.2.2 _ (wm k_557)) (by decide +kernel) ⟨by decide, by decide⟩, F.2.2.2.2 _ (wm k_559), F.2.2.2.2 _ (wm ks_31)⟩ (pre_V rfl hK hN hP hD [0, 1, 2, 3, 4, 5, 6, 7, 8, 9, 10] rfl (by decide) 0 rfl rfl) rfl rfl hl.1 rfl (lv_room (Nat.le_of_ble_eq_true rfl)) d_M_quota_112 ⟨by decide, by decide⟩) (fun r112 u112 hw112 => ?_)
                      subst hw112
                      refine j_ws (ws' := [(m0, .inr (6, [.int (nI 0), .int now, .int (nI n), .int rf, .ref m1, .ref m2, .ref m3, .ref m4, .ref m5, .ref m6, .ref m7, .ref m8, .ref m9, .ref m10])), (m1, .inl (cA, 80, .inl (X 0))), (m2, .inl (cA, 80, .inl (X 1))), (m3, .inl (cA, 80, .inl (X 2))), (m4, .inl (cA, 80, .inl (X 3))), (m5, .inl (cA, 80, .inl (X 4))), (m6, .inl (cA, 20, .inl sl)), (m7, .inl (cA, 10, .inl tt)), (m8, .inl (cA, 10, .inl sm)), (m9, .inl (cA, 10, .inl ((rq X n t k (j + 1)).2.2))), (m10, .inl (cA, 64, .inl lt))]) [0, 1, 2, 3, 4, 5, 6, 7, 8, 9, 10] (by decide) rfl ?_
                      refine j_iloadn F d_M_quota_115 2 rfl rfl ?_
                      refine j_iloadn F d_M_quota_116 3 rfl rfl ?_
                      refine j_goi (wc := [(m0, .inr (6, [.int (nI 0), .int now, .int (nI n), .int rf, .ref m1, .ref m2, .ref m3, .ref m4, .ref m5, .ref m6, .ref m7, .ref m8, .ref m9, .ref m10])), (m1, .inl (cA, 80, .inl (X 0))), (m2, .inl (cA, 80, .inl (X 1))), (m3, .inl (cA, 80, .inl (X 2))), (m4, .inl (cA, 80, .inl (X 3))), (m5, .inl (cA, 80, .inl (X 4))), (m6, .inl (cA, 20, .inl sl)), (m7, .inl (cA, 10, .inl tt)), (m8, .inl (cA, 10, .inl sm)), (m9, .inl (cA, 10, .inl ((rq X n t k (j + 1)).2.2))), (m10, .inl (cA, 64, .inl lt))]) (wr := []) hA [0, 1, 2, 3, 4, 5, 6, 7, 8, 9, 10] [] rfl rfl (by decide) (by decide) (fun H locs ls hP hD hl => va_runV (As := [.int (nI (ky X ((ordL X n t k).getD j 0))), .int t, .int k]) (rest := []) F (ct_M_next l D cA m0 m1 m2 m3 m4 m5 m6 m7 m8 m9 m10 (nI 0) now n rf X sl tt sm ((rq X n t k (j + 1)).2.2) lt hA0 (nI (ky X ((ordL X n t k).getD j 0))) t k  H.size) ⟨callB_of 3 F.2.2.2.2 (gd k_548) rfl rfl rfl (F.2.2.2.2 _ (wm k_7)) (F.2.2.2.2 _ (wm k_545)) (by decide +kernel) ⟨by decide, by decide⟩, F.2.2.2.2 _ (wm k_547), F.2.2.2.2 _ (wm ks_28)⟩ (pre_V rfl hK hN hP hD [0, 1, 2, 3, 4, 5, 6, 7, 8, 9, 10] rfl (by decide) 0 rfl rfl) rfl rfl hl.1 rfl (lv_room (Nat.le_of_ble_eq_true rfl)) d_M_quota_117 ⟨by decide, by decide⟩) (fun r117 u117 hw117 => ?_)
                      subst hw117
                      refine j_ws (ws' := [(m0, .inr (6, [.int (nI 0), .int now, .int (nI n), .int rf, .ref m1, .ref m2, .ref m3, .ref m4, .ref m5, .ref m6, .ref m7, .ref m8, .ref m9, .ref m10])), (m1, .inl (cA, 80, .inl (X 0))), (m2, .inl (cA, 80, .inl (X 1))), (m3, .inl (cA, 80, .inl (X 2))), (m4, .inl (cA, 80, .inl (X 3))), (m5, .inl (cA, 80, .inl (X 4))), (m6, .inl (cA, 20, .inl sl)), (m7, .inl (cA, 10, .inl tt)), (m8, .inl (cA, 10, .inl sm)), (m9, .inl (cA, 10, .inl ((rq X n t k (j + 1)).2.2))), (m10, .inl (cA, 64, .inl lt))]) [0, 1, 2, 3, 4, 5, 6, 7, 8, 9, 10] (by decide) rfl ?_
                      refine j_top (y := oI (fo X n t k (j + 1))) (by rw [nxt_s t k hA0 hj]; rfl) ?_
                      refine j_istore (lv' := [(5, .int (oI (fo X n t k (j + 1)))), (0, .ref m0), (1, .int (nI b)), (2, .int t), (3, .int k), (4, .int (nI ((rq X n t k (j + 1)).2.1))), (6, .int ((rq X n t k (j + 1)).1))]) F d_M_quota_120 (by decide) rfl ?_
                      refine j_goto (tgt := 59) F d_M_quota_122 (by decide) ?_
                      refine j_lv (lv' := [(0, .ref m0), (1, .int (nI b)), (2, .int t), (3, .int k), (4, .int (nI ((rq X n t k (j + 1)).2.1))), (5, .int (oI (fo X n t k (j + 1)))), (6, .int ((rq X n t k (j + 1)).1))]) [1, 2, 3, 4, 5, 0, 6] rfl ?_
                      exact ih59 (j + 1) (by omega) (by omega)
                    · refine j_aloadn F d_M_quota_87 0 rfl rfl ?_
                      refine j_get (ci := 6) (v := .ref m4) F in_M hK 0 rfl rfl 7 (by decide) (wm k_473) rfl d_M_quota_88 ?_
                      refine j_iload F d_M_quota_91 5 rfl ?_
                      refine j_iald (v := (X 3) ((ordL X n t k).getD j 0)) F hK 4 0 rfl rfl (by omega) (by decide) d_M_quota_93 rfl ?_
                      refine j_istore (lv' := [(6, .int ((X 3) ((ordL X n t k).getD j 0))), (0, .ref m0), (1, .int (nI b)), (2, .int t), (3, .int k), (4, .int (nI ((rq X n t k j).2.1))), (5, .int (nI ((ordL X n t k).getD j 0)))]) F d_M_quota_94 (by decide) rfl ?_
                      refine j_aloadn F d_M_quota_96 1 rfl rfl ?_
                      refine j_iload F d_M_quota_97 0 rfl ?_
                      refine j_iload F d_M_quota_99 5 rfl ?_
                      refine j_iloadn F d_M_quota_101 3 rfl rfl ?_
                      refine j_iloadn F d_M_quota_102 4 rfl rfl ?_
                      refine j_goi (wc := [(m0, .inr (6, [.int (nI 0), .int now, .int (nI n), .int rf, .ref m1, .ref m2, .ref m3, .ref m4, .ref m5, .ref m6, .ref m7, .ref m8, .ref m9, .ref m10])), (m1, .inl (cA, 80, .inl (X 0))), (m2, .inl (cA, 80, .inl (X 1))), (m3, .inl (cA, 80, .inl (X 2))), (m4, .inl (cA, 80, .inl (X 3))), (m5, .inl (cA, 80, .inl (X 4))), (m6, .inl (cA, 20, .inl sl)), (m7, .inl (cA, 10, .inl tt)), (m8, .inl (cA, 10, .inl sm)), (m9, .inl (cA, 10, .inl ((rq X n t k j).2.2))), (m10, .inl (cA, 64, .inl lt))]) (wr := []) hA [0, 1, 2, 3, 4, 5, 6, 7, 8, 9, 10] [] rfl rfl (by decide) (by decide) (fun H locs ls hP hD hl => va_runV (As := [.int ((X 3) ((ordL X n t k).getD j 0)), .int (nI ((rq X n t k j).2.1)), .int t, .int k]) (rest := []) F (ct_M_serves l D cA m0 m1 m2 m3 m4 m5 m6 m7 m8 m9 m10 (nI 0) now n rf X sl tt sm ((rq X n t k j).2.2) lt hA0 ((X 3) ((ordL X n t k).getD j 0)) ((rq X n t k j).2.1) hrq t k  H.size) ⟨callB_of 4 F.2.2.2.2 (gd k_588) rfl rfl rfl (F.2.2.2.2 _ (wm k_7)) (F.2.2.2.2 _ (wm k_585)) (by decide +kernel) ⟨by decide, by decide⟩, F.2.2.2.2 _ (wm k_587), F.2.2.2.2 _ (wm ks_34)⟩ (pre_V rfl hK hN hP hD [0, 1, 2, 3, 4, 5, 6, 7, 8, 9, 10] rfl (by decide) 0 rfl rfl) rfl rfl hl.1 rfl (lv_room (Nat.le_of_ble_eq_true rfl)) d_M_quota_103 ⟨by decide, by decide⟩) (fun r103 u103 hw103 => ?_)
                      subst hw103
                      refine j_ws (ws' := [(m0, .inr (6, [.int (nI 0), .int now, .int (nI n), .int rf, .ref m1, .ref m2, .ref m3, .ref m4, .ref m5, .ref m6, .ref m7, .ref m8, .ref m9, .ref m10])), (m1, .inl (cA, 80, .inl (X 0))), (m2, .inl (cA, 80, .inl (X 1))), (m3, .inl (cA, 80, .inl (X 2))), (m4, .inl (cA, 80, .inl (X 3))), (m5, .inl (cA, 80, .inl (X 4))), (m6, .inl (cA, 20, .inl sl)), (m7, .inl (cA, 10, .inl tt)), (m8, .inl (cA, 10, .inl sm)), (m9, .inl (cA, 10, .inl (rhs X n t k ((X 3) ((ordL X n t k).getD j 0)) ((rq X n t k j).2.1) ((rq X n t k j).2.2)))), (m10, .inl (cA, 64, .inl lt))]) [0, 1, 2, 3, 4, 5, 6, 7, 8, 9, 10] (by decide) rfl ?_
                      refine j_istore (lv' := [(4, .int (nI (rlf X n t k ((X 3) ((ordL X n t k).getD j 0)) ((rq X n t k j).2.1)))), (6, .int ((X 3) ((ordL X n t k).getD j 0))), (0, .ref m0), (1, .int (nI b)), (2, .int t), (3, .int k), (5, .int (nI ((ordL X n t k).getD j 0)))]) F d_M_quota_106 (by decide) rfl ?_
                      have ho := rq_t (X := X) (n := n) (t := t) (k := k) (j := j) ⟨c_72, c_84⟩
                      have e1 : rlf X n t k (X 3 ((ordL X n t k).getD j 0)) (rq X n t k j).2.1 = (rq X n t k (j + 1)).2.1 := by rw [ho]
                      have e2 : rhs X n t k (X 3 ((ordL X n t k).getD j 0)) (rq X n t k j).2.1 (rq X n t k j).2.2 = (rq X n t k (j + 1)).2.2 := by rw [ho]
                      have e3 : X 3 ((ordL X n t k).getD j 0) = (rq X n t k (j + 1)).1 := by rw [ho]
                      rw [e1, e2, e3]
                      refine j_aloadn F d_M_quota_108 2 rfl rfl ?_
                      refine j_aloadn F d_M_quota_109 2 rfl rfl ?_
                      refine j_iload F d_M_quota_110 6 rfl ?_
                      refine j_goi (wc := [(m0, .inr (6, [.int (nI 0), .int now, .int (nI n), .int rf, .ref m1, .ref m2, .ref m3, .ref m4, .ref m5, .ref m6, .ref m7, .ref m8, .ref m9, .ref m10])), (m1, .inl (cA, 80, .inl (X 0))), (m2, .inl (cA, 80, .inl (X 1))), (m3, .inl (cA, 80, .inl (X 2))), (m4, .inl (cA, 80, .inl (X 3))), (m5, .inl (cA, 80, .inl (X 4))), (m6, .inl (cA, 20, .inl sl)), (m7, .inl (cA, 10, .inl tt)), (m8, .inl (cA, 10, .inl sm)), (m9, .inl (cA, 10, .inl ((rq X n t k (j + 1)).2.2))), (m10, .inl (cA, 64, .inl lt))]) (wr := []) hA [0, 1, 2, 3, 4, 5, 6, 7, 8, 9, 10] [] rfl rfl (by decide) (by decide) (fun H locs ls hP hD hl => va_runV (As := [.int (nI ((ordL X n t k).getD j 0))]) (rest := [.ref m0]) F (ct_M_order l D cA m0 m1 m2 m3 m4 m5 m6 m7 m8 m9 m10 (nI 0) now n rf X sl tt sm ((rq X n t k (j + 1)).2.2) lt hA0 ((ordL X n t k).getD j 0) (by omega)  H.size) ⟨callB_of 1 F.2.2.2.2 (gd k_560) rfl rfl rfl (F.2.2.2.2 _ (wm k_7)) (F.2.2.2.2 _ (wm k_557)) (by decide +kernel) ⟨by decide, by decide⟩, F.2.2.2.2 _ (wm k_559), F.2.2.2.2 _ (wm ks_31)⟩ (pre_V rfl hK hN hP hD [0, 1, 2, 3, 4, 5, 6, 7, 8, 9, 10] rfl (by decide) 0 rfl rfl) rfl rfl hl.1 rfl (lv_room (Nat.le_of_ble_eq_true rfl)) d_M_quota_112 ⟨by decide, by decide⟩) (fun r112 u112 hw112 => ?_)
                      subst hw112
                      refine j_ws (ws' := [(m0, .inr (6, [.int (nI 0), .int now, .int (nI n), .int rf, .ref m1, .ref m2, .ref m3, .ref m4, .ref m5, .ref m6, .ref m7, .ref m8, .ref m9, .ref m10])), (m1, .inl (cA, 80, .inl (X 0))), (m2, .inl (cA, 80, .inl (X 1))), (m3, .inl (cA, 80, .inl (X 2))), (m4, .inl (cA, 80, .inl (X 3))), (m5, .inl (cA, 80, .inl (X 4))), (m6, .inl (cA, 20, .inl sl)), (m7, .inl (cA, 10, .inl tt)), (m8, .inl (cA, 10, .inl sm)), (m9, .inl (cA, 10, .inl ((rq X n t k (j + 1)).2.2))), (m10, .inl (cA, 64, .inl lt))]) [0, 1, 2, 3, 4, 5, 6, 7, 8, 9, 10] (by decide) rfl ?_
                      refine j_iloadn F d_M_quota_115 4 rfl rfl ?_
                      refine j_iloadn F d_M_quota_116 5 rfl rfl ?_
                      refine j_goi (wc := [(m0, .inr (6, [.int (nI 0), .int now, .int (nI n), .int rf, .ref m1, .ref m2, .ref m3, .ref m4, .ref m5, .ref m6, .ref m7, .ref m8, .ref m9, .ref m10])), (m1, .inl (cA, 80, .inl (X 0))), (m2, .inl (cA, 80, .inl (X 1))), (m3, .inl (cA, 80, .inl (X 2))), (m4, .inl (cA, 80, .inl (X 3))), (m5, .inl (cA, 80, .inl (X 4))), (m6, .inl (cA, 20, .inl sl)), (m7, .inl (cA, 10, .inl tt)), (m8, .inl (cA, 10, .inl sm)), (m9, .inl (cA, 10, .inl ((rq X n t k (j + 1)).2.2))), (m10, .inl (cA, 64, .inl lt))]) (wr := []) hA [0, 1, 2, 3, 4, 5, 6, 7, 8, 9, 10] [] rfl rfl (by decide) (by decide) (fun H locs ls hP hD hl => va_runV (As := [.int (nI (ky X ((ordL X n t k).getD j 0))), .int t, .int k]) (rest := []) F (ct_M_next l D cA m0 m1 m2 m3 m4 m5 m6 m7 m8 m9 m10 (nI 0) now n rf X sl tt sm ((rq X n t k (j + 1)).2.2) lt hA0 (nI (ky X ((ordL X n t k).getD j 0))) t k  H.size) ⟨callB_of 3 F.2.2.2.2 (gd k_548) rfl rfl rfl (F.2.2.2.2 _ (wm k_7)) (F.2.2.2.2 _ (wm k_545)) (by decide +kernel) ⟨by decide, by decide⟩, F.2.2.2.2 _ (wm k_547), F.2.2.2.2 _ (wm ks_28)⟩ (pre_V rfl hK hN hP hD [0, 1, 2, 3, 4, 5, 6, 7, 8, 9, 10] rfl (by decide) 0 rfl rfl) rfl rfl hl.1 rfl (lv_room (Nat.le_of_ble_eq_true rfl)) d_M_quota_117 ⟨by decide, by decide⟩) (fun r117 u117 hw117 => ?_)
                      subst hw117
                      refine j_ws (ws' := [(m0, .inr (6, [.int (nI 0), .int now, .int (nI n), .int rf, .ref m1, .ref m2, .ref m3, .ref m4, .ref m5, .ref m6, .ref m7, .ref m8, .ref m9, .ref m10])), (m1, .inl (cA, 80, .inl (X 0))), (m2, .inl (cA, 80, .inl (X 1))), (m3, .inl (cA, 80, .inl (X 2))), (m4, .inl (cA, 80, .inl (X 3))), (m5, .inl (cA, 80, .inl (X 4))), (m6, .inl (cA, 20, .inl sl)), (m7, .inl (cA, 10, .inl tt)), (m8, .inl (cA, 10, .inl sm)), (m9, .inl (cA, 10, .inl ((rq X n t k (j + 1)).2.2))), (m10, .inl (cA, 64, .inl lt))]) [0, 1, 2, 3, 4, 5, 6, 7, 8, 9, 10] (by decide) rfl ?_
                      refine j_top (y := oI (fo X n t k (j + 1))) (by rw [nxt_s t k hA0 hj]; rfl) ?_
                      refine j_istore (lv' := [(5, .int (oI (fo X n t k (j + 1)))), (4, .int (nI ((rq X n t k (j + 1)).2.1))), (6, .int ((rq X n t k (j + 1)).1)), (0, .ref m0), (1, .int (nI b)), (2, .int t), (3, .int k)]) F d_M_quota_120 (by decide) rfl ?_
                      refine j_goto (tgt := 59) F d_M_quota_122 (by decide) ?_
                      refine j_lv (lv' := [(0, .ref m0), (1, .int (nI b)), (2, .int t), (3, .int k), (4, .int (nI ((rq X n t k (j + 1)).2.1))), (5, .int (oI (fo X n t k (j + 1)))), (6, .int ((rq X n t k (j + 1)).1))]) [3, 4, 5, 6, 1, 0, 2] rfl ?_
                      exact ih59 (j + 1) (by omega) (by omega)
              · rw [fo_f hj]
                show J p l e rm_M_quota s m args below meth cd D vwCl A s.heap 7 0 0 Q [(m0, .inr (6, [.int (nI 0), .int now, .int (nI n), .int rf, .ref m1, .ref m2, .ref m3, .ref m4, .ref m5, .ref m6, .ref m7, .ref m8, .ref m9, .ref m10])), (m1, .inl (cA, 80, .inl (X 0))), (m2, .inl (cA, 80, .inl (X 1))), (m3, .inl (cA, 80, .inl (X 2))), (m4, .inl (cA, 80, .inl (X 3))), (m5, .inl (cA, 80, .inl (X 4))), (m6, .inl (cA, 20, .inl sl)), (m7, .inl (cA, 10, .inl tt)), (m8, .inl (cA, 10, .inl sm)), (m9, .inl (cA, 10, .inl ((rq X n t k j).2.2))), (m10, .inl (cA, 64, .inl lt))] [(0, .ref m0), (1, .int (nI b)), (2, .int t), (3, .int k), (4, .int (nI ((rq X n t k j).2.1))), (5, .int (-1)), (6, .int ((rq X n t k j).1))] 59 []
                refine j_iload F d_M_quota_59 5 rfl ?_
                refine j_if_lt (tgt := 125) F d_M_quota_61 (by decide) (fun c_61 => ?_) (fun c_61 => ?_)
                · obtain rfl : j = (ordL X n t k).length := by omega
                  refine j_aloadn F d_M_quota_125 0 rfl rfl ?_
                  refine j_get (ci := 6) (v := .ref m9) F in_M hK 0 rfl rfl 12 (by decide) (wm k_478) rfl d_M_quota_126 ?_
                  refine j_iloadn F d_M_quota_129 1 rfl rfl ?_
                  refine j_iald (v := ((rq X n t k (ordL X n t k).length).2.2) b) F hK 9 0 rfl rfl (by omega) (by decide) d_M_quota_130 rfl ?_
                  exact ret _ _ _ _ _ _ (rq X n t k (ordL X n t k).length).2.2 d_M_quota_131 rfl (by decide) (by decide) rfl (by rw [rq_quo t k hA0])
                · exact absurd (show (-1 : Int32) < nI 0 by decide) c_61
          refine j_lv (lv' := [(0, .ref m0), (1, .int (nI b)), (2, .int t), (3, .int k), (4, .int (nI 1000)), (5, .int (oI (fo X n t k 0))), (6, .int (-1))]) [3, 4, 5, 6, 2, 1, 0] rfl ?_
          exact loop59 ((ordL X n t k).length + 1) 0 (by omega) (by omega)
        · have c_25 : ¬ 10 ≤ i := fun h => c_25 ((nI_leI (by omega) (by omega)).mpr h)
          refine j_aloadn F d_M_quota_28 0 rfl rfl ?_
          refine j_get (ci := 6) (v := .ref m9) F in_M hK 0 rfl rfl 12 (by decide) (wm k_478) rfl d_M_quota_29 ?_
          refine j_iload F d_M_quota_32 4 rfl ?_
          refine j_iconst (v := nI 0) F d_M_quota_34 (by decide) ?_
          refine j_iast (ws' := [(m0, .inr (6, [.int (nI 0), .int now, .int (nI n), .int rf, .ref m1, .ref m2, .ref m3, .ref m4, .ref m5, .ref m6, .ref m7, .ref m8, .ref m9, .ref m10])), (m1, .inl (cA, 80, .inl (X 0))), (m2, .inl (cA, 80, .inl (X 1))), (m3, .inl (cA, 80, .inl (X 2))), (m4, .inl (cA, 80, .inl (X 3))), (m5, .inl (cA, 80, .inl (X 4))), (m6, .inl (cA, 20, .inl sl)), (m7, .inl (cA, 10, .inl tt)), (m8, .inl (cA, 10, .inl sm)), (m9, .inl (cA, 10, .inl (upd g i (nI 0)))), (m10, .inl (cA, 64, .inl lt))]) F hK 9 0 rfl rfl (by omega) (by decide) d_M_quota_35 rfl ?_
          refine j_iinc (v := nI (i + 1)) (lv' := [(4, .int (nI (i + 1))), (0, .ref m0), (1, .int (nI b)), (2, .int t), (3, .int k)]) F d_M_quota_36 4 rfl (jn_inc i) (by decide) rfl ?_
          refine j_goto (tgt := 21) F d_M_quota_39 (by decide) ?_
          refine j_lv (lv' := [(0, .ref m0), (1, .int (nI b)), (2, .int t), (3, .int k), (4, .int (nI (i + 1)))]) [1, 2, 3, 4, 0] rfl ?_
          exact ih21 (i + 1) (upd g i (nI 0)) (by omega) (by omega) (fun j hj => by
            by_cases e1 : j = i
            · rw [e1, upd_eq]
            · rw [upd_ne e1]; exact hg j (by omega))
    refine j_lv (lv' := [(0, .ref m0), (1, .int (nI b)), (2, .int t), (3, .int k), (4, .int (nI 0))]) [1, 2, 3, 4, 0] rfl ?_
    exact loop21 (10 + 1) 0 hs (by omega) (by omega) (fun j hj => absurd hj (Nat.not_lt_zero _))
  · exact absurd c_13 (by decide)

set_option maxHeartbeats 4000000 in
set_option maxRecDepth 100000 in
theorem ct_M_quota_no (l : Launch) (D : va_G) (cA : ClassId) (m0 m1 m2 m3 m4 m5 m6 m7 m8 m9 m10 : Nat) (th now : Int32) (n : Nat) (rf : Int32) (X : AF) (sl tt sm hs lt : Nat → Int32) (hA0 : aok X n) (b t k : Int32) (hbad : (win b (nI 0) (nI 9) && (win t (nI 0) (nI 10000) && win k (nI 0) (nI 10000))) = false) : Ci (S := Unit) l y_M_quota (Cond.code y_M_quota c_M_quota 7 (some .int) :: WD) rm_M_quota D vwCl [(cA, .int)] nws [.ref m0, .int b, .int t, .int k] [(m0, .inr (6, [.int th, .int now, .int (nI n), .int rf, .ref m1, .ref m2, .ref m3, .ref m4, .ref m5, .ref m6, .ref m7, .ref m8, .ref m9, .ref m10])), (m1, .inl (cA, 80, .inl (X 0))), (m2, .inl (cA, 80, .inl (X 1))), (m3, .inl (cA, 80, .inl (X 2))), (m4, .inl (cA, 80, .inl (X 3))), (m5, .inl (cA, 80, .inl (X 4))), (m6, .inl (cA, 20, .inl sl)), (m7, .inl (cA, 10, .inl tt)), (m8, .inl (cA, 10, .inl sm)), (m9, .inl (cA, 10, .inl hs)), (m10, .inl (cA, 64, .inl lt))] 0 0 (fun r _ => r = nI 0) (fun _ => [(m0, .inr (6, [.int (nI 1), .int now, .int (nI n), .int rf, .ref m1, .ref m2, .ref m3, .ref m4, .ref m5, .ref m6, .ref m7, .ref m8, .ref m9, .ref m10])), (m1, .inl (cA, 80, .inl (X 0))), (m2, .inl (cA, 80, .inl (X 1))), (m3, .inl (cA, 80, .inl (X 2))), (m4, .inl (cA, 80, .inl (X 3))), (m5, .inl (cA, 80, .inl (X 4))), (m6, .inl (cA, 20, .inl sl)), (m7, .inl (cA, 10, .inl tt)), (m8, .inl (cA, 10, .inl sm)), (m9, .inl (cA, 10, .inl hs)), (m10, .inl (cA, 64, .inl lt))]) := by
  refine Ci.of (cc := c_M_quota) (nL := 7) (lv := [(0, .ref m0), (1, .int b), (2, .int t), (3, .int k)]) (by decide) rfl (Nat.le_of_ble_eq_true rfl) rfl ?_
  intro p e s m args below meth cd A Q F hK hN hA ret
  refine j_aloadn F d_M_quota_0 0 rfl rfl ?_
  refine j_iloadn F d_M_quota_1 1 rfl rfl ?_
  refine j_iconst (v := nI 0) F d_M_quota_2 (by decide) ?_
  refine j_bipush (v := nI 9) F d_M_quota_3 (by decide) ?_
  refine j_goi (wc := []) (wr := [(m0, .inr (6, [.int th, .int now, .int (nI n), .int rf, .ref m1, .ref m2, .ref m3, .ref m4, .ref m5, .ref m6, .ref m7, .ref m8, .ref m9, .ref m10])), (m1, .inl (cA, 80, .inl (X 0))), (m2, .inl (cA, 80, .inl (X 1))), (m3, .inl (cA, 80, .inl (X 2))), (m4, .inl (cA, 80, .inl (X 3))), (m5, .inl (cA, 80, .inl (X 4))), (m6, .inl (cA, 20, .inl sl)), (m7, .inl (cA, 10, .inl tt)), (m8, .inl (cA, 10, .inl sm)), (m9, .inl (cA, 10, .inl hs)), (m10, .inl (cA, 64, .inl lt))]) hA [] [0, 1, 2, 3, 4, 5, 6, 7, 8, 9, 10] rfl rfl (by decide) (by decide) (fun H locs ls hP hD hl => va_runS (As := [.int b, .int (nI 0), .int (nI 9)]) (rest := [.ref m0]) F (ct_M_in l D cA b (nI 0) (nI 9) H.size) ⟨callB_of 3 F.2.2.2.2 (gd k_523) rfl rfl rfl (F.2.2.2.2 _ (wm k_7)) (F.2.2.2.2 _ (wm k_521)) (by decide +kernel) ⟨by decide, by decide⟩, F.2.2.2.2 _ (wm k_522)⟩ (pre_S hK hN hP hD [] rfl (by decide)) rfl rfl hl.1 rfl (lv_room (Nat.le_of_ble_eq_true rfl)) d_M_quota_5 ⟨by decide, by decide⟩) (fun r5 u5 hw5 => ?_)
  subst hw5
  refine j_ws (ws' := [(m0, .inr (6, [.int th, .int now, .int (nI n), .int rf, .ref m1, .ref m2, .ref m3, .ref m4, .ref m5, .ref m6, .ref m7, .ref m8, .ref m9, .ref m10])), (m1, .inl (cA, 80, .inl (X 0))), (m2, .inl (cA, 80, .inl (X 1))), (m3, .inl (cA, 80, .inl (X 2))), (m4, .inl (cA, 80, .inl (X 3))), (m5, .inl (cA, 80, .inl (X 4))), (m6, .inl (cA, 20, .inl sl)), (m7, .inl (cA, 10, .inl tt)), (m8, .inl (cA, 10, .inl sm)), (m9, .inl (cA, 10, .inl hs)), (m10, .inl (cA, 64, .inl lt))]) [0, 1, 2, 3, 4, 5, 6, 7, 8, 9, 10] (by decide) rfl ?_
  refine j_iloadn F d_M_quota_8 2 rfl rfl ?_
  refine j_iloadn F d_M_quota_9 3 rfl rfl ?_
  refine j_goi (wc := [(m0, .inr (6, [.int th, .int now, .int (nI n), .int rf, .ref m1, .ref m2, .ref m3, .ref m4, .ref m5, .ref m6, .ref m7, .ref m8, .ref m9, .ref m10])), (m1, .inl (cA, 80, .inl (X 0))), (m2, .inl (cA, 80, .inl (X 1))), (m3, .inl (cA, 80, .inl (X 2))), (m4, .inl (cA, 80, .inl (X 3))), (m5, .inl (cA, 80, .inl (X 4))), (m6, .inl (cA, 20, .inl sl)), (m7, .inl (cA, 10, .inl tt)), (m8, .inl (cA, 10, .inl sm)), (m9, .inl (cA, 10, .inl hs)), (m10, .inl (cA, 64, .inl lt))]) (wr := []) hA [0, 1, 2, 3, 4, 5, 6, 7, 8, 9, 10] [] rfl rfl (by decide) (by decide) (fun H locs ls hP hD hl => va_runV (As := [.int (bI (win b (nI 0) (nI 9))), .int t, .int k]) (rest := []) F (ct_M_isAsked_no l D cA m0 m1 m2 m3 m4 m5 m6 m7 m8 m9 m10 th now n rf X sl tt sm hs lt hA0 (win b (nI 0) (nI 9)) t k hbad H.size) ⟨callB_of 3 F.2.2.2.2 (gd k_540) rfl rfl rfl (F.2.2.2.2 _ (wm k_7)) (F.2.2.2.2 _ (wm k_537)) (by decide +kernel) ⟨by decide, by decide⟩, F.2.2.2.2 _ (wm k_539), F.2.2.2.2 _ (wm ks_26)⟩ (pre_V rfl hK hN hP hD [0, 1, 2, 3, 4, 5, 6, 7, 8, 9, 10] rfl (by decide) 0 rfl rfl) rfl rfl hl.1 rfl (lv_room (Nat.le_of_ble_eq_true rfl)) d_M_quota_10 ⟨by decide, by decide⟩) (fun r10 u10 hw10 => ?_)
  subst hw10
  refine j_ws (ws' := [(m0, .inr (6, [.int (nI 1), .int now, .int (nI n), .int rf, .ref m1, .ref m2, .ref m3, .ref m4, .ref m5, .ref m6, .ref m7, .ref m8, .ref m9, .ref m10])), (m1, .inl (cA, 80, .inl (X 0))), (m2, .inl (cA, 80, .inl (X 1))), (m3, .inl (cA, 80, .inl (X 2))), (m4, .inl (cA, 80, .inl (X 3))), (m5, .inl (cA, 80, .inl (X 4))), (m6, .inl (cA, 20, .inl sl)), (m7, .inl (cA, 10, .inl tt)), (m8, .inl (cA, 10, .inl sm)), (m9, .inl (cA, 10, .inl hs)), (m10, .inl (cA, 64, .inl lt))]) [0, 1, 2, 3, 4, 5, 6, 7, 8, 9, 10] (by decide) rfl ?_
  refine j_if_ne (tgt := 18) F d_M_quota_13 (by decide) (fun c_13 => ?_) (fun c_13 => ?_)
  · exact absurd rfl c_13
  · refine j_iconst (v := nI 0) F d_M_quota_16 (by decide) ?_
    exact ret _ _ _ _ _ _ () d_M_quota_17 rfl (by decide) (by decide) rfl rfl
