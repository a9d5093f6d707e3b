def rm_S_gatherAsks : Room := { frames := 0, cells := 0, slots := 0, locals := 0 }
set_option maxHeartbeats 4000000 in
set_option maxRecDepth 100000 in
theorem ct_S_gatherAsks (l : Launch) (D : va_G) (cA : ClassId) (s0 s1 s2 : Nat) (z : Int32) (gv ak : Nat → Int32) (o0 o1 : Nat) (g : Nat → Int32) (L : List Nat) (a0 a1 a2 a3 a4 a5 : Nat) (X : AF) (n : Nat) (hn : n ≤ 80) (hL : rowL g L) (hlen : L.length ≤ 80) (hmem : ∀ i, i < L.length → L.getD i 0 < n) : Cv (S := (Nat → Int32)) l y_S_gatherAsks (Cond.code y_S_gatherAsks c_S_gatherAsks 4 none :: WD) rm_S_gatherAsks D vwCl [(cA, .int)] nws [.ref s0, .ref a0, .ref o0] [(s0, .inr (4, [.ref s1, .ref s2, .int z])), (s1, .inl (cA, 10, .inl gv)), (s2, .inl (cA, 80, .inl ak)), (o0, .inr (2, [.ref o1, .int (nI L.length)])), (o1, .inl (cA, 80, .inl g)), (a0, .inr (0, [.ref a1, .ref a2, .ref a3, .ref a4, .ref a5, .int (nI n)])), (a1, .inl (cA, 80, .inl (X 0))), (a2, .inl (cA, 80, .inl (X 1))), (a3, .inl (cA, 80, .inl (X 2))), (a4, .inl (cA, 80, .inl (X 3))), (a5, .inl (cA, 80, .inl (X 4)))] 0 0 (fun u => rowL u (asksL X L)) (fun u => [(s0, .inr (4, [.ref s1, .ref s2, .int (nI ((asksL X L).length))])), (s1, .inl (cA, 10, .inl gv)), (s2, .inl (cA, 80, .inl u)), (o0, .inr (2, [.ref o1, .int (nI L.length)])), (o1, .inl (cA, 80, .inl g)), (a0, .inr (0, [.ref a1, .ref a2, .ref a3, .ref a4, .ref a5, .int (nI n)])), (a1, .inl (cA, 80, .inl (X 0))), (a2, .inl (cA, 80, .inl (X 1))), (a3, .inl (cA, 80, .inl (X 2))), (a4, .inl (cA, 80, .inl (X 3))), (a5, .inl (cA, 80, .inl (X 4)))]) := by
  refine Cv.of (cc := c_S_gatherAsks) (nL := 4) (lv := [(0, .ref s0), (1, .ref a0), (2, .ref o0)]) (by decide) rfl (Nat.le_of_ble_eq_true rfl) rfl ?_
  intro p e s m args below meth cd A Q F hK hN hA hinit ret
  refine j_aloadn F d_S_gatherAsks_0 0 rfl rfl ?_
  refine j_iconst (v := nI 0) F d_S_gatherAsks_1 (by decide) ?_
  refine j_put (ci := 4) (v := .int (nI 0)) (ty := .int) (ws' := [(s0, .inr (4, [.ref s1, .ref s2, .int (nI 0)])), (s1, .inl (cA, 10, .inl gv)), (s2, .inl (cA, 80, .inl ak)), (o0, .inr (2, [.ref o1, .int (nI L.length)])), (o1, .inl (cA, 80, .inl g)), (a0, .inr (0, [.ref a1, .ref a2, .ref a3, .ref a4, .ref a5, .int (nI n)])), (a1, .inl (cA, 80, .inl (X 0))), (a2, .inl (cA, 80, .inl (X 1))), (a3, .inl (cA, 80, .inl (X 2))), (a4, .inl (cA, 80, .inl (X 3))), (a5, .inl (cA, 80, .inl (X 4)))]) F in_S ty_S tk_S nm_S hK 0 rfl rfl 2 (by decide) (wm k_110) rfl (by decide +kernel) rfl rfl (Nat.le_of_ble_eq_true rfl) d_S_gatherAsks_2 rfl ?_
  refine j_iconst (v := nI 0) F d_S_gatherAsks_5 (by decide) ?_
  refine j_istoren (lv' := [(3, .int (nI 0)), (0, .ref s0), (1, .ref a0), (2, .ref o0)]) F d_S_gatherAsks_6 rfl (by decide) rfl ?_
  have loop7 : ∀ (fuel : Nat) (i : Nat) (h : Nat → Int32) (hfuel7 : L.length - i < fuel) (hi : i ≤ L.length) (hg : rowL h (akT X L i)), J p l e rm_S_gatherAsks s m args below meth cd D vwCl A s.heap 4 0 0 Q [(s0, .inr (4, [.ref s1, .ref s2, .int (nI ((akT X L i).length))])), (s1, .inl (cA, 10, .inl gv)), (s2, .inl (cA, 80, .inl h)), (o0, .inr (2, [.ref o1, .int (nI L.length)])), (o1, .inl (cA, 80, .inl g)), (a0, .inr (0, [.ref a1, .ref a2, .ref a3, .ref a4, .ref a5, .int (nI n)])), (a1, .inl (cA, 80, .inl (X 0))), (a2, .inl (cA, 80, .inl (X 1))), (a3, .inl (cA, 80, .inl (X 2))), (a4, .inl (cA, 80, .inl (X 3))), (a5, .inl (cA, 80, .inl (X 4)))] [(0, .ref s0), (1, .ref a0), (2, .ref o0), (3, .int (nI i))] 7 [] := by
    intro fuel
    induction fuel with
    | zero => intro i h hfuel; exact absurd hfuel (Nat.not_lt_zero _)
    | succ fuel ih7 =>
      intro i h hfuel7 hi hg
      have hal := akT_len X L i
      refine j_iloadn F d_S_gatherAsks_7 3 rfl rfl ?_
      refine j_aloadn F d_S_gatherAsks_8 2 rfl rfl ?_
      refine j_getN (ci := 2) (v := .int (nI L.length)) F in_O hK hN 3 rfl rfl 1 (by decide) n_75 rfl d_S_gatherAsks_9 ?_
      refine j_ic_ge (tgt := 61) F d_S_gatherAsks_12 (by decide) (fun c_12 => ?_) (fun c_12 => ?_)
      · have c_12 : L.length ≤ i := (nI_leI (by omega) (by omega)).mp c_12
        have hin : i = L.length := by omega
        subst hin
        exact ret _ _ _ _ _ h d_S_gatherAsks_61 (by decide) (by decide) rfl hg
      · have c_12 : ¬ L.length ≤ i := fun h => c_12 ((nI_leI (by omega) (by omega)).mpr h)
        refine j_aloadn F d_S_gatherAsks_15 1 rfl rfl ?_
        refine j_getN (ci := 0) (v := .ref a1) F in_A hK hN 5 rfl rfl 0 (by decide) n_32 rfl d_S_gatherAsks_16 ?_
        refine j_aloadn F d_S_gatherAsks_19 2 rfl rfl ?_
        refine j_getN (ci := 2) (v := .ref o1) F in_O hK hN 3 rfl rfl 0 (by decide) n_72 rfl d_S_gatherAsks_20 ?_
        refine j_iloadn F d_S_gatherAsks_23 3 rfl rfl ?_
        refine j_iald (v := nI (L.getD i 0)) F hK 4 0 rfl rfl (by omega) (by decide) d_S_gatherAsks_24 (hL i (by omega)) ?_
        have hm := hmem i (by omega)
        refine j_iald (v := (X 0) (L.getD i 0)) F hK 6 0 rfl rfl (by omega) (by decide) d_S_gatherAsks_25 rfl ?_
        refine j_iconst (v := nI 4) F d_S_gatherAsks_26 (by decide) ?_
        refine j_ic_ne (tgt := 55) F d_S_gatherAsks_27 (by decide) (fun c_27 => ?_) (fun c_27 => ?_)
        · have ho : akT X L (i + 1) = akT X L i := akT_f c_27
          rw [← ho] at hg ⊢
          refine j_iinc (v := nI (i + 1)) (lv' := [(3, .int (nI (i + 1))), (0, .ref s0), (1, .ref a0), (2, .ref o0)]) F d_S_gatherAsks_55 3 rfl (jn_inc i) (by decide) rfl ?_
          refine j_goto (tgt := 7) F d_S_gatherAsks_58 (by decide) ?_
          refine j_lv (lv' := [(0, .ref s0), (1, .ref a0), (2, .ref o0), (3, .int (nI (i + 1)))]) [1, 2, 3, 0] rfl ?_
          exact ih7 (i + 1) h (by omega) (by omega) hg
        · refine j_aloadn F d_S_gatherAsks_30 0 rfl rfl ?_
          refine j_get (ci := 4) (v := .ref s2) F in_S hK 0 rfl rfl 1 (by decide) (wm k_109) rfl d_S_gatherAsks_31 ?_
          refine j_aloadn F d_S_gatherAsks_34 0 rfl rfl ?_
          refine j_get (ci := 4) (v := .int (nI ((akT X L i).length))) F in_S hK 0 rfl rfl 2 (by decide) (wm k_110) rfl d_S_gatherAsks_35 ?_
          refine j_aloadn F d_S_gatherAsks_38 2 rfl rfl ?_
          refine j_getN (ci := 2) (v := .ref o1) F in_O hK hN 3 rfl rfl 0 (by decide) n_72 rfl d_S_gatherAsks_39 ?_
          refine j_iloadn F d_S_gatherAsks_42 3 rfl rfl ?_
          refine j_iald (v := nI (L.getD i 0)) F hK 4 0 rfl rfl (by omega) (by decide) d_S_gatherAsks_43 (hL i (by omega)) ?_
          refine j_iast (ws' := [(s0, .inr (4, [.ref s1, .ref s2, .int (nI ((akT X L i).length))])), (s1, .inl (cA, 10, .inl gv)), (s2, .inl (cA, 80, .inl (upd h ((akT X L i).length) (nI (L.getD i 0))))), (o0, .inr (2, [.ref o1, .int (nI L.length)])), (o1, .inl (cA, 80, .inl g)), (a0, .inr (0, [.ref a1, .ref a2, .ref a3, .ref a4, .ref a5, .int (nI n)])), (a1, .inl (cA, 80, .inl (X 0))), (a2, .inl (cA, 80, .inl (X 1))), (a3, .inl (cA, 80, .inl (X 2))), (a4, .inl (cA, 80, .inl (X 3))), (a5, .inl (cA, 80, .inl (X 4)))]) F hK 2 0 rfl rfl (by omega) (by decide) d_S_gatherAsks_44 rfl ?_
          refine j_aloadn F d_S_gatherAsks_45 0 rfl rfl ?_
          refine j_dup F d_S_gatherAsks_46 rfl ?_
          refine j_get (ci := 4) (v := .int (nI ((akT X L i).length))) F in_S hK 0 rfl rfl 2 (by decide) (wm k_110) rfl d_S_gatherAsks_47 ?_
          refine j_iconst (v := nI 1) F d_S_gatherAsks_50 (by decide) ?_
          refine j_iadd (v := nI (((akT X L i).length) + 1)) F d_S_gatherAsks_51 (nI_add _ _) ?_
          refine j_put (ci := 4) (v := .int (nI (((akT X L i).length) + 1))) (ty := .int) (ws' := [(s0, .inr (4, [.ref s1, .ref s2, .int (nI (((akT X L i).length) + 1))])), (s1, .inl (cA, 10, .inl gv)), (s2, .inl (cA, 80, .inl (upd h ((akT X L i).length) (nI (L.getD i 0))))), (o0, .inr (2, [.ref o1, .int (nI L.length)])), (o1, .inl (cA, 80, .inl g)), (a0, .inr (0, [.ref a1, .ref a2, .ref a3, .ref a4, .ref a5, .int (nI n)])), (a1, .inl (cA, 80, .inl (X 0))), (a2, .inl (cA, 80, .inl (X 1))), (a3, .inl (cA, 80, .inl (X 2))), (a4, .inl (cA, 80, .inl (X 3))), (a5, .inl (cA, 80, .inl (X 4)))]) F in_S ty_S tk_S nm_S hK 0 rfl rfl 2 (by decide) (wm k_110) rfl (by decide +kernel) rfl rfl (Nat.le_of_ble_eq_true rfl) d_S_gatherAsks_52 rfl ?_
          have ho : akT X L (i + 1) = akT X L i ++ [L.getD i 0] := akT_t c_27
          have hl1 : (akT X L i).length + 1 = (akT X L (i + 1)).length := by rw [ho, List.length_append]; rfl
          rw [hl1]
          have hg2 : rowL (upd h (akT X L i).length (nI (L.getD i 0))) (akT X L (i + 1)) := by rw [ho]; exact rowL_push hg
          refine j_iinc (v := nI (i + 1)) (lv' := [(3, .int (nI (i + 1))), (0, .ref s0), (1, .ref a0), (2, .ref o0)]) F d_S_gatherAsks_55 3 rfl (jn_inc i) (by decide) rfl ?_
          refine j_goto (tgt := 7) F d_S_gatherAsks_58 (by decide) ?_
          refine j_lv (lv' := [(0, .ref s0), (1, .ref a0), (2, .ref o0), (3, .int (nI (i + 1)))]) [1, 2, 3, 0] rfl ?_
          exact ih7 (i + 1) (upd h (akT X L i).length (nI (L.getD i 0))) (by omega) (by omega) hg2
  refine j_lv (lv' := [(0, .ref s0), (1, .ref a0), (2, .ref o0), (3, .int (nI 0))]) [1, 2, 3, 0] rfl ?_
  exact loop7 (L.length + 1) 0 ak (by omega) (by omega) (fun j hj => absurd hj (Nat.not_lt_zero _))

def rm_S_startsTime : Room := { frames := 0, cells := 0, slots := 0, locals := 0 }
set_option maxHeartbeats 4000000 in
set_option maxRecDepth 100000 in
theorem ct_S_startsTime (l : Launch) (D : va_G) (cA : ClassId) (s0 s1 s2 : Nat) (gv ak : Nat → Int32) (K : List Nat) (a0 a1 a2 a3 a4 a5 : Nat) (X : AF) (n : Nat) (hA0 : aok X n) (hKr : rowL ak K) (hKo : okK X n K) (i : Nat) (hi : i < K.length) : Ci (S := Unit) l y_S_startsTime (Cond.code y_S_startsTime c_S_startsTime 3 (some .boolean) :: WD) rm_S_startsTime D vwCl [(cA, .int)] nws [.ref s0, .ref a0, .int (nI i)] [(s0, .inr (4, [.ref s1, .ref s2, .int (nI K.length)])), (s1, .inl (cA, 10, .inl gv)), (s2, .inl (cA, 80, .inl ak)), (a0, .inr (0, [.ref a1, .ref a2, .ref a3, .ref a4, .ref a5, .int (nI n)])), (a1, .inl (cA, 80, .inl (X 0))), (a2, .inl (cA, 80, .inl (X 1))), (a3, .inl (cA, 80, .inl (X 2))), (a4, .inl (cA, 80, .inl (X 3))), (a5, .inl (cA, 80, .inl (X 4)))] 0 0 (fun r _ => r = bI (stB X K i)) (fun _ => [(s0, .inr (4, [.ref s1, .ref s2, .int (nI K.length)])), (s1, .inl (cA, 10, .inl gv)), (s2, .inl (cA, 80, .inl ak)), (a0, .inr (0, [.ref a1, .ref a2, .ref a3, .ref a4, .ref a5, .int (nI n)])), (a1, .inl (cA, 80, .inl (X 0))), (a2, .inl (cA, 80, .inl (X 1))), (a3, .inl (cA, 80, .inl (X 2))), (a4, .inl (cA, 80, .inl (X 3))), (a5, .inl (cA, 80, .inl (X 4)))]) := by
  refine Ci.of (cc := c_S_startsTime) (nL := 3) (lv := [(0, .ref s0), (1, .ref a0), (2, .int (nI i))]) (by decide) rfl (Nat.le_of_ble_eq_true rfl) rfl ?_
  intro p e s m args below meth cd A Q F hK hN hA ret
  have h80 := hA0.1
  have hk80 := hKo.1
  refine j_iloadn F d_S_startsTime_0 2 rfl rfl ?_
  refine j_if_eq (tgt := 31) F d_S_startsTime_1 (by decide) (fun c_1 => ?_) (fun c_1 => ?_)
  · have c_1 : i = 0 := (nI_eq (by omega) (by omega)).mp c_1
    refine j_iconst (v := nI 1) F d_S_startsTime_31 (by decide) ?_
    refine j_goto (tgt := 36) F d_S_startsTime_32 (by decide) ?_
    exact ret _ _ _ _ _ _ () d_S_startsTime_36 rfl (by decide) (by decide) rfl (bI_t (by unfold stB; rw [decide_eq_true c_1]; rfl))
  · have c_1 : ¬ i = 0 := fun h => c_1 ((nI_eq (by omega) (by omega)).mpr h)
    refine j_aloadn F d_S_startsTime_4 1 rfl rfl ?_
    refine j_getN (ci := 0) (v := .ref a4) F in_A hK hN 3 rfl rfl 3 (by decide) n_43 rfl d_S_startsTime_5 ?_
    refine j_aloadn F d_S_startsTime_8 0 rfl rfl ?_
    refine j_get (ci := 4) (v := .ref s2) F in_S hK 0 rfl rfl 1 (by decide) (wm k_109) rfl d_S_startsTime_9 ?_
    refine j_iloadn F d_S_startsTime_12 2 rfl rfl ?_
    have hm1 := (hKo.2 i hi).1
    have hm2 := (hKo.2 (i - 1) (by omega)).1
    refine j_iald (v := nI (K.getD i 0)) F hK 2 0 rfl rfl (by omega) (by decide) d_S_startsTime_13 (hKr i hi) ?_
    refine j_iald (v := (X 3) (K.getD i 0)) F hK 7 0 rfl rfl (by omega) (by decide) d_S_startsTime_14 rfl ?_
    refine j_aloadn F d_S_startsTime_15 1 rfl rfl ?_
    refine j_getN (ci := 0) (v := .ref a4) F in_A hK hN 3 rfl rfl 3 (by decide) n_43 rfl d_S_startsTime_16 ?_
    refine j_aloadn F d_S_startsTime_19 0 rfl rfl ?_
    refine j_get (ci := 4) (v := .ref s2) F in_S hK 0 rfl rfl 1 (by decide) (wm k_109) rfl d_S_startsTime_20 ?_
    refine j_iloadn F d_S_startsTime_23 2 rfl rfl ?_
    refine j_iconst (v := nI 1) F d_S_startsTime_24 (by decide) ?_
    refine j_isub (v := nI (i - 1)) F d_S_startsTime_25 (pk_sub (by omega)) ?_
    refine j_iald (v := nI (K.getD (i - 1) 0)) F hK 2 0 rfl rfl (by omega) (by decide) d_S_startsTime_26 (hKr (i - 1) (by omega)) ?_
    refine j_iald (v := (X 3) (K.getD (i - 1) 0)) F hK 7 0 rfl rfl (by omega) (by decide) d_S_startsTime_27 rfl ?_
    refine j_ic_eq (tgt := 35) F d_S_startsTime_28 (by decide) (fun c_28 => ?_) (fun c_28 => ?_)
    · refine j_iconst (v := nI 0) F d_S_startsTime_35 (by decide) ?_
      exact ret _ _ _ _ _ _ () d_S_startsTime_36 rfl (by decide) (by decide) rfl (bI_f (by unfold stB; rw [decide_eq_false c_1, decide_eq_true c_28]; rfl))
    · refine j_iconst (v := nI 1) F d_S_startsTime_31 (by decide) ?_
      refine j_goto (tgt := 36) F d_S_startsTime_32 (by decide) ?_
      exact ret _ _ _ _ _ _ () d_S_startsTime_36 rfl (by decide) (by decide) rfl (bI_t (by unfold stB; rw [decide_eq_false c_28]; simp))

def rm_S_endOfTime : Room := { frames := 1, cells := 0, slots := 0, locals := 22 }
set_option maxHeartbeats 4000000 in
set_option maxRecDepth 100000 in
theorem ct_S_endOfTime (l : Launch) (D : va_G) (cA : ClassId) (s0 s1 s2 : Nat) (gv ak : Nat → Int32) (K : List Nat) (a0 a1 a2 a3 a4 a5 : Nat) (X : AF) (n : Nat) (hA0 : aok X n) (hKr : rowL ak K) (hKo : okK X n K) (fr : Nat) (hfr : fr < K.length) : Ci (S := Unit) l y_S_endOfTime (Cond.code y_S_endOfTime c_S_endOfTime 4 (some .int) :: WD) rm_S_endOfTime D vwCl [(cA, .int)] nws [.ref s0, .ref a0, .int (nI fr)] [(s0, .inr (4, [.ref s1, .ref s2, .int (nI K.length)])), (s1, .inl (cA, 10, .inl gv)), (s2, .inl (cA, 80, .inl ak)), (a0, .inr (0, [.ref a1, .ref a2, .ref a3, .ref a4, .ref a5, .int (nI n)])), (a1, .inl (cA, 80, .inl (X 0))), (a2, .inl (cA, 80, .inl (X 1))), (a3, .inl (cA, 80, .inl (X 2))), (a4, .inl (cA, 80, .inl (X 3))), (a5, .inl (cA, 80, .inl (X 4)))] 0 0 (fun r _ => r = nI (eoT X K fr)) (fun _ => [(s0, .inr (4, [.ref s1, .ref s2, .int (nI K.length)])), (s1, .inl (cA, 10, .inl gv)), (s2, .inl (cA, 80, .inl ak)), (a0, .inr (0, [.ref a1, .ref a2, .ref a3, .ref a4, .ref a5, .int (nI n)])), (a1, .inl (cA, 80, .inl (X 0))), (a2, .inl (cA, 80, .inl (X 1))), (a3, .inl (cA, 80, .inl (X 2))), (a4, .inl (cA, 80, .inl (X 3))), (a5, .inl (cA, 80, .inl (X 4)))]) := by
  refine Ci.of (cc := c_S_endOfTime) (nL := 4) (lv := [(0, .ref s0), (1, .ref a0), (2, .int (nI fr))]) (by decide) rfl (Nat.le_of_ble_eq_true rfl) rfl ?_
  intro p e s m args below meth cd A Q F hK hN hA ret
  have h80 := hA0.1
  have hk80 := hKo.1
  refine j_iloadn F d_S_endOfTime_0 2 rfl rfl ?_
  refine j_iconst (v := nI 1) F d_S_endOfTime_1 (by decide) ?_
  refine j_iadd (v := nI (fr + 1)) F d_S_endOfTime_2 (nI_add _ _) ?_
  refine j_istoren (lv' := [(3, .int (nI (fr + 1))), (0, .ref s0), (1, .ref a0), (2, .int (nI fr))]) F d_S_endOfTime_3 rfl (by decide) rfl ?_
  have loop4 : ∀ (fuel : Nat) (e1 : Nat) (hfuel4 : K.length - e1 < fuel) (he1 : fr + 1 ≤ e1) (he2 : e1 ≤ K.length) (hev : eoT X K fr = eoF X K (K.length - e1) e1), J p l e rm_S_endOfTime s m args below meth cd D vwCl A s.heap 4 0 0 Q [(s0, .inr (4, [.ref s1, .ref s2, .int (nI K.length)])), (s1, .inl (cA, 10, .inl gv)), (s2, .inl (cA, 80, .inl ak)), (a0, .inr (0, [.ref a1, .ref a2, .ref a3, .ref a4, .ref a5, .int (nI n)])), (a1, .inl (cA, 80, .inl (X 0))), (a2, .inl (cA, 80, .inl (X 1))), (a3, .inl (cA, 80, .inl (X 2))), (a4, .inl (cA, 80, .inl (X 3))), (a5, .inl (cA, 80, .inl (X 4)))] [(0, .ref s0), (1, .ref a0), (2, .int (nI fr)), (3, .int (nI e1))] 4 [] := by
    intro fuel
    induction fuel with
    | zero => intro e1 hfuel; exact absurd hfuel (Nat.not_lt_zero _)
    | succ fuel ih4 =>
      intro e1 hfuel4 he1 he2 hev
      refine j_iloadn F d_S_endOfTime_4 3 rfl rfl ?_
      refine j_aloadn F d_S_endOfTime_5 0 rfl rfl ?_
      refine j_get (ci := 4) (v := .int (nI K.length)) F in_S hK 0 rfl rfl 2 (by decide) (wm k_110) rfl d_S_endOfTime_6 ?_
      refine j_ic_ge (tgt := 27) F d_S_endOfTime_9 (by decide) (fun c_9 => ?_) (fun c_9 => ?_)
      · have c_9 : K.length ≤ e1 := (nI_leI (by omega) (by omega)).mp c_9
        refine j_iloadn F d_S_endOfTime_27 3 rfl rfl ?_
        exact ret _ _ _ _ _ _ () d_S_endOfTime_28 rfl (by decide) (by decide) rfl (by rw [hev, eoF_end (by omega)])
      · have c_9 : ¬ K.length ≤ e1 := fun h => c_9 ((nI_leI (by omega) (by omega)).mpr h)
        refine j_aloadn F d_S_endOfTime_12 0 rfl rfl ?_
        refine j_aloadn F d_S_endOfTime_13 1 rfl rfl ?_
        refine j_iloadn F d_S_endOfTime_14 3 rfl rfl ?_
        refine j_goi (wc := [(s0, .inr (4, [.ref s1, .ref s2, .int (nI K.length)])), (s1, .inl (cA, 10, .inl gv)), (s2, .inl (cA, 80, .inl ak)), (a0, .inr (0, [.ref a1, .ref a2, .ref a3, .ref a4, .ref a5, .int (nI n)])), (a1, .inl (cA, 80, .inl (X 0))), (a2, .inl (cA, 80, .inl (X 1))), (a3, .inl (cA, 80, .inl (X 2))), (a4, .inl (cA, 80, .inl (X 3))), (a5, .inl (cA, 80, .inl (X 4)))]) (wr := []) hA [0, 1, 2, 3, 4, 5, 6, 7, 8] [] rfl rfl (by decide) (by decide) (fun H locs ls hP hD hl => va_runV (As := [.ref a0, .int (nI e1)]) (rest := []) F (ct_S_startsTime l D cA s0 s1 s2 gv ak K a0 a1 a2 a3 a4 a5 X n hA0 hKr hKo e1 (by omega) H.size) ⟨callB_of 2 F.2.2.2.2 (gd k_367) rfl rfl rfl (F.2.2.2.2 _ (wm k_5)) (F.2.2.2.2 _ (wm k_364)) (by decide +kernel) ⟨by decide, by decide⟩, F.2.2.2.2 _ (wm k_366), F.2.2.2.2 _ (wm ks_18)⟩ (pre_V rfl hK hN hP hD [0, 1, 2, 3, 4, 5, 6, 7, 8] rfl (by decide) 0 rfl rfl) rfl rfl hl.1 rfl (lv_room (Nat.le_of_ble_eq_true rfl)) d_S_endOfTime_15 ⟨by decide, by decide⟩) (fun r15 u15 hw15 => ?_)
        subst hw15
        refine j_ws (ws' := [(s0, .inr (4, [.ref s1, .ref s2, .int (nI K.length)])), (s1, .inl (cA, 10, .inl gv)), (s2, .inl (cA, 80, .inl ak)), (a0, .inr (0, [.ref a1, .ref a2, .ref a3, .ref a4, .ref a5, .int (nI n)])), (a1, .inl (cA, 80, .inl (X 0))), (a2, .inl (cA, 80, .inl (X 1))), (a3, .inl (cA, 80, .inl (X 2))), (a4, .inl (cA, 80, .inl (X 3))), (a5, .inl (cA, 80, .inl (X 4)))]) [0, 1, 2, 3, 4, 5, 6, 7, 8] (by decide) rfl ?_
        refine j_if_ne (tgt := 27) F d_S_endOfTime_18 (by decide) (fun c_18 => ?_) (fun c_18 => ?_)
        · refine j_iloadn F d_S_endOfTime_27 3 rfl rfl ?_
          exact ret _ _ _ _ _ _ () d_S_endOfTime_28 rfl (by decide) (by decide) rfl (by rw [hev, eoF_st (bI_1 c_18)])
        · refine j_iinc (v := nI (e1 + 1)) (lv' := [(3, .int (nI (e1 + 1))), (0, .ref s0), (1, .ref a0), (2, .int (nI fr))]) F d_S_endOfTime_21 3 rfl (jn_inc e1) (by decide) rfl ?_
          refine j_goto (tgt := 4) F d_S_endOfTime_24 (by decide) ?_
          refine j_lv (lv' := [(0, .ref s0), (1, .ref a0), (2, .int (nI fr)), (3, .int (nI (e1 + 1)))]) [1, 2, 3, 0] rfl ?_
          exact ih4 (e1 + 1) (by omega) (by omega) (by omega) (by rw [hev]; exact eoF_go (by omega) (bI_0 c_18))
  refine j_lv (lv' := [(0, .ref s0), (1, .ref a0), (2, .int (nI fr)), (3, .int (nI (fr + 1)))]) [1, 2, 3, 0] rfl ?_
  exact loop4 (K.length - (fr + 1) + 1) (fr + 1) (by omega) (by omega) (by omega) rfl

def rm_S_share : Room := { frames := 0, cells := 0, slots := 0, locals := 0 }
set_option maxHeartbeats 4000000 in
set_option maxRecDepth 100000 in
theorem ct_S_share (l : Launch) (D : va_G) (cA : ClassId) (b lf w : Nat) (hb : b ≤ 1000) (hl : lf ≤ 1000) (hw : w ≤ 100000) : Ci (S := Unit) l y_S_share (Cond.code y_S_share c_S_share 3 (some .int) :: WD) rm_S_share D vwCl [(cA, .int)] nws [.int (nI b), .int (nI lf), .int (nI w)] [] 0 0 (fun r _ => r = nI (shr b lf w)) (fun _ => []) := by
  refine Ci.of (cc := c_S_share) (nL := 3) (lv := [(0, .int (nI b)), (1, .int (nI lf)), (2, .int (nI w))]) (by decide) rfl (Nat.le_of_ble_eq_true rfl) rfl ?_
  intro p e s m args below meth cd A Q F hK hN hA ret
  refine j_iloadn F d_S_share_0 2 rfl rfl ?_
  refine j_iloadn F d_S_share_1 1 rfl rfl ?_
  refine j_ic_le (tgt := 9) F d_S_share_2 (by decide) (fun c_2 => ?_) (fun c_2 => ?_)
  · have c_2 : w ≤ lf := (nI_leI (by omega) (by omega)).mp c_2
    refine j_iloadn F d_S_share_9 0 rfl rfl ?_
    exact ret _ _ _ _ _ _ () d_S_share_10 rfl (by decide) (by decide) rfl (by unfold shr; rw [if_pos c_2])
  · have c_2 : ¬ w ≤ lf := fun h => c_2 ((nI_leI (by omega) (by omega)).mpr h)
    refine j_iloadn F d_S_share_5 2 rfl rfl ?_
    refine j_if_gt (tgt := 11) F d_S_share_6 (by decide) (fun c_6 => ?_) (fun c_6 => ?_)
    · have c_6 : 0 < w := (nI_ltI (by omega) (by omega)).mp c_6
      refine j_iloadn F d_S_share_11 0 rfl rfl ?_
      refine j_iloadn F d_S_share_12 1 rfl rfl ?_
      have hbl : b * lf ≤ 1000 * 1000 := Nat.mul_le_mul hb hl
      refine j_imul (v := nI (b * lf)) F d_S_share_13 (pk_mul _ _) ?_
      refine j_iloadn F d_S_share_14 2 rfl rfl ?_
      refine j_idiv (v := nI ((b * lf) / w)) F d_S_share_15 (nI_ne0 (by omega) (by omega)) (pk_div (by omega) (by omega) (by omega)) ?_
      exact ret _ _ _ _ _ _ () d_S_share_16 rfl (by decide) (by decide) rfl (by unfold shr; rw [if_neg c_2])
    · have c_6 : ¬ 0 < w := fun h => c_6 ((nI_ltI (by omega) (by omega)).mpr h)
      refine j_iloadn F d_S_share_9 0 rfl rfl ?_
      exact ret _ _ _ _ _ _ () d_S_share_10 rfl (by decide) (by decide) rfl (by unfold shr; rw [if_pos (by omega)])

theorem jn_min {a b : Nat} (ha : a < 2147483648) (hb : b < 2147483648) : (if nI b < nI a then nI b else nI a) = nI (min a b) := by
  by_cases h : b < a
  · rw [if_pos ((nI_ltI hb ha).mpr h), Nat.min_eq_right (by omega)]
  · rw [if_neg (fun g => h ((nI_ltI hb ha).mp g)), Nat.min_eq_left (by omega)]
theorem mem_idx {L : List Nat} {n : Nat} (h : ∀ i, i < L.length → L.getD i 0 < n) : ∀ y, y ∈ L → y < n := by
  intro y hy
  obtain ⟨i, hi, e⟩ := List.mem_iff_getElem.mp hy
  have := h i hi
  rw [List.getD_eq_getElem?_getD, List.getElem?_eq_getElem hi] at this
  rw [← e]; exact this
theorem asks_ok {X : AF} {n : Nat} {L : List Nat} (hlen : L.length ≤ 80) (hmem : ∀ i, i < L.length → L.getD i 0 < n) : okK X n (asksL X L) :=
  ⟨Nat.le_trans (akT_len X L L.length) hlen, fun i hi => by
    have h := akT_mem (Nat.le_refl _) (getD_mem hi)
    exact ⟨mem_idx hmem _ h.1, h.2⟩⟩

def rm_S_serveTime : Room := { frames := 1, cells := 0, slots := 0, locals := 24 }
set_option maxHeartbeats 4000000 in
set_option maxRecDepth 100000 in
theorem ct_S_serveTime (l : Launch) (D : va_G) (cA : ClassId) (s0 s1 s2 : Nat) (gv ak : Nat → Int32) (K : List Nat) (a0 a1 a2 a3 a4 a5 : Nat) (X : AF) (n : Nat) (hA0 : aok X n) (hKr : rowL ak K) (hKo : okK X n K) (fr en lf : Nat) (h1 : fr ≤ en) (h2 : en ≤ K.length) (hlf : lf ≤ 1000) : Ci (S := Unit) l y_S_serveTime (Cond.code y_S_serveTime c_S_serveTime 9 (some .int) :: WD) rm_S_serveTime D vwCl [(cA, .int)] nws [.ref s0, .ref a0, .int (nI fr), .int (nI en), .int (nI lf)] [(s0, .inr (4, [.ref s1, .ref s2, .int (nI K.length)])), (s1, .inl (cA, 10, .inl gv)), (s2, .inl (cA, 80, .inl ak)), (a0, .inr (0, [.ref a1, .ref a2, .ref a3, .ref a4, .ref a5, .int (nI n)])), (a1, .inl (cA, 80, .inl (X 0))), (a2, .inl (cA, 80, .inl (X 1))), (a3, .inl (cA, 80, .inl (X 2))), (a4, .inl (cA, 80, .inl (X 3))), (a5, .inl (cA, 80, .inl (X 4)))] 0 0 (fun r _ => r = nI (srvR X K fr (en - fr) lf)) (fun _ => [(s0, .inr (4, [.ref s1, .ref s2, .int (nI K.length)])), (s1, .inl (cA, 10, .inl (srvG gv X K fr (en - fr) lf))), (s2, .inl (cA, 80, .inl ak)), (a0, .inr (0, [.ref a1, .ref a2, .ref a3, .ref a4, .ref a5, .int (nI n)])), (a1, .inl (cA, 80, .inl (X 0))), (a2, .inl (cA, 80, .inl (X 1))), (a3, .inl (cA, 80, .inl (X 2))), (a4, .inl (cA, 80, .inl (X 3))), (a5, .inl (cA, 80, .inl (X 4)))]) := by
  refine Ci.of (cc := c_S_serveTime) (nL := 9) (lv := [(0, .ref s0), (1, .ref a0), (2, .int (nI fr)), (3, .int (nI en)), (4, .int (nI lf))]) (by decide) rfl (Nat.le_of_ble_eq_true rfl) rfl ?_
  intro p e s m args below meth cd A Q F hK hN hA ret
  have h80 := hA0.1
  have hk80 := hKo.1
  refine j_iconst (v := nI 0) F d_S_serveTime_0 (by decide) ?_
  refine j_istore (lv' := [(5, .int (nI 0)), (0, .ref s0), (1, .ref a0), (2, .int (nI fr)), (3, .int (nI en)), (4, .int (nI lf))]) F d_S_serveTime_1 (by decide) rfl ?_
  refine j_iloadn F d_S_serveTime_3 3 rfl rfl ?_
  refine j_istore (lv' := [(6, .int (nI fr)), (5, .int (nI 0)), (0, .ref s0), (1, .ref a0), (2, .int (nI fr)), (3, .int (nI en)), (4, .int (nI lf))]) F d_S_serveTime_4 (by decide) rfl ?_
  have loop6 : ∀ (fuel : Nat) (c : Nat) (hfuel6 : en - (fr + c) < fuel) (hc : fr + c ≤ en), J p l e rm_S_serveTime s m args below meth cd D vwCl A s.heap 9 0 0 Q [(s0, .inr (4, [.ref s1, .ref s2, .int (nI K.length)])), (s1, .inl (cA, 10, .inl gv)), (s2, .inl (cA, 80, .inl ak)), (a0, .inr (0, [.ref a1, .ref a2, .ref a3, .ref a4, .ref a5, .int (nI n)])), (a1, .inl (cA, 80, .inl (X 0))), (a2, .inl (cA, 80, .inl (X 1))), (a3, .inl (cA, 80, .inl (X 2))), (a4, .inl (cA, 80, .inl (X 3))), (a5, .inl (cA, 80, .inl (X 4)))] [(0, .ref s0), (1, .ref a0), (2, .int (nI fr)), (3, .int (nI en)), (4, .int (nI lf)), (5, .int (nI (wan X K fr c))), (6, .int (nI (fr + c)))] 6 [] := by
    intro fuel
    induction fuel with
    | zero => intro c hfuel; exact absurd hfuel (Nat.not_lt_zero _)
    | succ fuel ih6 =>
      intro c hfuel6 hc
      refine j_iload F d_S_serveTime_6 6 rfl ?_
      refine j_iloadn F d_S_serveTime_8 3 rfl rfl ?_
      refine j_ic_ge (tgt := 35) F d_S_serveTime_9 (by decide) (fun c_9 => ?_) (fun c_9 => ?_)
      · have c_9 : en ≤ (fr + c) := (nI_leI (by omega) (by omega)).mp c_9
        have hce : c = en - fr := by omega
        subst hce
        have hwl := wan_le hA0 hKo (fr := fr) (c := en - fr) (by omega)
        refine j_iconst (v := nI 0) F d_S_serveTime_35 (by decide) ?_
        refine j_istore (lv' := [(6, .int (nI 0)), (0, .ref s0), (1, .ref a0), (2, .int (nI fr)), (3, .int (nI en)), (4, .int (nI lf)), (5, .int (nI (wan X K fr (en - fr))))]) F d_S_serveTime_36 (by decide) rfl ?_
        refine j_iloadn F d_S_serveTime_38 3 rfl rfl ?_
        refine j_istore (lv' := [(7, .int (nI fr)), (6, .int (nI 0)), (0, .ref s0), (1, .ref a0), (2, .int (nI fr)), (3, .int (nI en)), (4, .int (nI lf)), (5, .int (nI (wan X K fr (en - fr))))]) F d_S_serveTime_39 (by decide) rfl ?_
        have loop41 : ∀ (fuel : Nat) (c : Nat) (hfuel41 : en - (fr + c) < fuel) (hc : fr + c ≤ en), J p l e rm_S_serveTime s m args below meth cd D vwCl A s.heap 9 0 0 Q [(s0, .inr (4, [.ref s1, .ref s2, .int (nI K.length)])), (s1, .inl (cA, 10, .inl (accF gv (aG X K fr) (shX X K fr lf (wan X K fr (en - fr))) c))), (s2, .inl (cA, 80, .inl ak)), (a0, .inr (0, [.ref a1, .ref a2, .ref a3, .ref a4, .ref a5, .int (nI n)])), (a1, .inl (cA, 80, .inl (X 0))), (a2, .inl (cA, 80, .inl (X 1))), (a3, .inl (cA, 80, .inl (X 2))), (a4, .inl (cA, 80, .inl (X 3))), (a5, .inl (cA, 80, .inl (X 4)))] [(0, .ref s0), (1, .ref a0), (2, .int (nI fr)), (3, .int (nI en)), (4, .int (nI lf)), (5, .int (nI (wan X K fr (en - fr)))), (6, .int (nI (spn X K fr lf (wan X K fr (en - fr)) c))), (7, .int (nI (fr + c)))] 41 [] := by
          intro fuel
          induction fuel with
          | zero => intro c hfuel; exact absurd hfuel (Nat.not_lt_zero _)
          | succ fuel ih41 =>
            intro c hfuel41 hc
            refine j_iload F d_S_serveTime_41 7 rfl ?_
            refine j_iloadn F d_S_serveTime_43 3 rfl rfl ?_
            refine j_ic_ge (tgt := 103) F d_S_serveTime_44 (by decide) (fun c_44 => ?_) (fun c_44 => ?_)
            · have c_44 : en ≤ (fr + c) := (nI_leI (by omega) (by omega)).mp c_44
              have hce : c = en - fr := by omega
              subst hce
              have hspn := spn_le X K fr (en - fr) lf
              refine j_iload F d_S_serveTime_103 4 rfl ?_
              refine j_iload F d_S_serveTime_105 5 rfl ?_
              refine j_mmin (v := nI (min lf (wan X K fr (en - fr)))) F (wm k_379) (wm k_380) (wm k_13) (wm k_381) (by decide) (Nat.le_of_ble_eq_true rfl) (by decide) (by decide) d_S_serveTime_107 (jn_min (by omega) (by omega)) ?_
              refine j_istore (lv' := [(7, .int (nI (min lf (wan X K fr (en - fr))))), (0, .ref s0), (1, .ref a0), (2, .int (nI fr)), (3, .int (nI en)), (4, .int (nI lf)), (5, .int (nI (wan X K fr (en - fr)))), (6, .int (nI (spn X K fr lf (wan X K fr (en - fr)) (en - fr))))]) F d_S_serveTime_110 (by decide) rfl ?_
              refine j_iloadn F d_S_serveTime_112 3 rfl rfl ?_
              refine j_istore (lv' := [(8, .int (nI fr)), (7, .int (nI (min lf (wan X K fr (en - fr))))), (0, .ref s0), (1, .ref a0), (2, .int (nI fr)), (3, .int (nI en)), (4, .int (nI lf)), (5, .int (nI (wan X K fr (en - fr)))), (6, .int (nI (spn X K fr lf (wan X K fr (en - fr)) (en - fr))))]) F d_S_serveTime_113 (by decide) rfl ?_
              have loop115 : ∀ (fuel : Nat) (c : Nat) (hfuel115 : en - (fr + c) < fuel) (hc : fr + c ≤ en) (hm : spn X K fr lf (wan X K fr (en - fr)) (en - fr) + c ≤ min lf (wan X K fr (en - fr))), J p l e rm_S_serveTime s m args below meth cd D vwCl A s.heap 9 0 0 Q [(s0, .inr (4, [.ref s1, .ref s2, .int (nI K.length)])), (s1, .inl (cA, 10, .inl (accF (accF gv (aG X K fr) (shX X K fr lf (wan X K fr (en - fr))) (en - fr)) (aG X K fr) (fun _ => 1) c))), (s2, .inl (cA, 80, .inl ak)), (a0, .inr (0, [.ref a1, .ref a2, .ref a3, .ref a4, .ref a5, .int (nI n)])), (a1, .inl (cA, 80, .inl (X 0))), (a2, .inl (cA, 80, .inl (X 1))), (a3, .inl (cA, 80, .inl (X 2))), (a4, .inl (cA, 80, .inl (X 3))), (a5, .inl (cA, 80, .inl (X 4)))] [(0, .ref s0), (1, .ref a0), (2, .int (nI fr)), (3, .int (nI en)), (4, .int (nI lf)), (5, .int (nI (wan X K fr (en - fr)))), (6, .int (nI (spn X K fr lf (wan X K fr (en - fr)) (en - fr) + c))), (7, .int (nI (min lf (wan X K fr (en - fr))))), (8, .int (nI (fr + c)))] 115 [] := by
                intro fuel
                induction fuel with
                | zero => intro c hfuel; exact absurd hfuel (Nat.not_lt_zero _)
                | succ fuel ih115 =>
                  intro c hfuel115 hc hm
                  refine j_iload F d_S_serveTime_115 8 rfl ?_
                  refine j_iloadn F d_S_serveTime_117 3 rfl rfl ?_
                  refine j_ic_ge (tgt := 158) F d_S_serveTime_118 (by decide) (fun c_118 => ?_) (fun c_118 => ?_)
                  · have c_118 : en ≤ (fr + c) := (nI_leI (by omega) (by omega)).mp c_118
                    have hcm : c = mre X K fr (en - fr) lf := by unfold mre; omega
                    subst hcm
                    refine j_iload F d_S_serveTime_158 6 rfl ?_
                    exact ret _ _ _ _ _ _ () d_S_serveTime_160 rfl (by decide) (by decide) rfl rfl
                  · have c_118 : ¬ en ≤ (fr + c) := fun h => c_118 ((nI_leI (by omega) (by omega)).mpr h)
                    refine j_iload F d_S_serveTime_121 6 rfl ?_
                    refine j_iload F d_S_serveTime_123 7 rfl ?_
                    refine j_ic_ge (tgt := 158) F d_S_serveTime_125 (by decide) (fun c_125 => ?_) (fun c_125 => ?_)
                    · have c_125 : (min lf (wan X K fr (en - fr))) ≤ (spn X K fr lf (wan X K fr (en - fr)) (en - fr) + c) := (nI_leI (by omega) (by omega)).mp c_125
                      have hcm : c = mre X K fr (en - fr) lf := by unfold mre; omega
                      subst hcm
                      refine j_iload F d_S_serveTime_158 6 rfl ?_
                      exact ret _ _ _ _ _ _ () d_S_serveTime_160 rfl (by decide) (by decide) rfl rfl
                    · have c_125 : ¬ (min lf (wan X K fr (en - fr))) ≤ (spn X K fr lf (wan X K fr (en - fr)) (en - fr) + c) := fun h => c_125 ((nI_leI (by omega) (by omega)).mpr h)
                      have hq := hKo.2 (fr + c) (by omega)
                      have hqa := hA0.2 _ hq.1
                      have hb1 : X 2 (K.getD (fr + c) 0) = nI (bN X (gK K fr c)) ∧ 1 ≤ bN X (gK K fr c) ∧ bN X (gK K fr c) ≤ 1000 := bN_eq hqa hq.2
                      have ha1 : X 1 (K.getD (fr + c) 0) = nI (aG X K fr c) ∧ aG X K fr c < 10 := aN_eq hqa hq.2
                      refine j_aloadn F d_S_serveTime_128 0 rfl rfl ?_
                      refine j_get (ci := 4) (v := .ref s1) F in_S hK 0 rfl rfl 0 (by decide) (wm k_107) rfl d_S_serveTime_129 ?_
                      refine j_aloadn F d_S_serveTime_132 1 rfl rfl ?_
                      refine j_getN (ci := 0) (v := .ref a2) F in_A hK hN 3 rfl rfl 1 (by decide) n_36 rfl d_S_serveTime_133 ?_
                      refine j_aloadn F d_S_serveTime_136 0 rfl rfl ?_
                      refine j_get (ci := 4) (v := .ref s2) F in_S hK 0 rfl rfl 1 (by decide) (wm k_109) rfl d_S_serveTime_137 ?_
                      refine j_iload F d_S_serveTime_140 8 rfl ?_
                      refine j_iald (v := nI (K.getD (fr + c) 0)) F hK 2 0 rfl rfl (by omega) (by decide) d_S_serveTime_142 (hKr _ (by omega)) ?_
                      refine j_iald (v := nI (aG X K fr c)) F hK 5 0 rfl rfl (by omega) (by decide) d_S_serveTime_143 ha1.1 ?_
                      refine j_dup2 F d_S_serveTime_144 rfl rfl ?_
                      refine j_iald (v := (accF (accF gv (aG X K fr) (shX X K fr lf (wan X K fr (en - fr))) (en - fr)) (aG X K fr) (fun _ => 1) c) (aG X K fr c)) F hK 1 0 rfl rfl (by omega) (by decide) d_S_serveTime_145 rfl ?_
                      refine j_iconst (v := nI 1) F d_S_serveTime_146 (by decide) ?_
                      refine j_iadd (v := ((accF (accF gv (aG X K fr) (shX X K fr lf (wan X K fr (en - fr))) (en - fr)) (aG X K fr) (fun _ => 1) c) (aG X K fr c)) + (nI 1)) F d_S_serveTime_147 rfl ?_
                      refine j_iast (ws' := [(s0, .inr (4, [.ref s1, .ref s2, .int (nI K.length)])), (s1, .inl (cA, 10, .inl (upd (accF (accF gv (aG X K fr) (shX X K fr lf (wan X K fr (en - fr))) (en - fr)) (aG X K fr) (fun _ => 1) c) (aG X K fr c) (((accF (accF gv (aG X K fr) (shX X K fr lf (wan X K fr (en - fr))) (en - fr)) (aG X K fr) (fun _ => 1) c) (aG X K fr c)) + (nI 1))))), (s2, .inl (cA, 80, .inl ak)), (a0, .inr (0, [.ref a1, .ref a2, .ref a3, .ref a4, .ref a5, .int (nI n)])), (a1, .inl (cA, 80, .inl (X 0))), (a2, .inl (cA, 80, .inl (X 1))), (a3, .inl (cA, 80, .inl (X 2))), (a4, .inl (cA, 80, .inl (X 3))), (a5, .inl (cA, 80, .inl (X 4)))]) F hK 1 0 rfl rfl (by omega) (by decide) d_S_serveTime_148 rfl ?_
                      refine j_ext (ws' := [(s0, .inr (4, [.ref s1, .ref s2, .int (nI K.length)])), (s1, .inl (cA, 10, .inl (accF (accF gv (aG X K fr) (shX X K fr lf (wan X K fr (en - fr))) (en - fr)) (aG X K fr) (fun _ => 1) (c + 1)))), (s2, .inl (cA, 80, .inl ak)), (a0, .inr (0, [.ref a1, .ref a2, .ref a3, .ref a4, .ref a5, .int (nI n)])), (a1, .inl (cA, 80, .inl (X 0))), (a2, .inl (cA, 80, .inl (X 1))), (a3, .inl (cA, 80, .inl (X 2))), (a4, .inl (cA, 80, .inl (X 3))), (a5, .inl (cA, 80, .inl (X 4)))]) 1 (g := accF (accF gv (aG X K fr) (shX X K fr lf (wan X K fr (en - fr))) (en - fr)) (aG X K fr) (fun _ => 1) (c + 1)) rfl (fun i9 _ => congrFun (accF_s (accF gv (aG X K fr) (shX X K fr lf (wan X K fr (en - fr))) (en - fr)) (aG X K fr) (fun _ => 1) c) i9) rfl ?_
                      refine j_iinc (v := nI ((spn X K fr lf (wan X K fr (en - fr)) (en - fr) + c) + 1)) (lv' := [(6, .int (nI ((spn X K fr lf (wan X K fr (en - fr)) (en - fr) + c) + 1))), (0, .ref s0), (1, .ref a0), (2, .int (nI fr)), (3, .int (nI en)), (4, .int (nI lf)), (5, .int (nI (wan X K fr (en - fr)))), (7, .int (nI (min lf (wan X K fr (en - fr))))), (8, .int (nI (fr + c)))]) F d_S_serveTime_149 6 rfl (jn_inc (spn X K fr lf (wan X K fr (en - fr)) (en - fr) + c)) (by decide) rfl ?_
                      refine j_iinc (v := nI (fr + c + 1)) (lv' := [(8, .int (nI (fr + c + 1))), (6, .int (nI ((spn X K fr lf (wan X K fr (en - fr)) (en - fr) + c) + 1))), (0, .ref s0), (1, .ref a0), (2, .int (nI fr)), (3, .int (nI en)), (4, .int (nI lf)), (5, .int (nI (wan X K fr (en - fr)))), (7, .int (nI (min lf (wan X K fr (en - fr)))))]) F d_S_serveTime_152 8 rfl (jn_inc (fr + c)) (by decide) rfl ?_
                      refine j_goto (tgt := 115) F d_S_serveTime_155 (by decide) ?_
                      refine j_lv (lv' := [(0, .ref s0), (1, .ref a0), (2, .int (nI fr)), (3, .int (nI en)), (4, .int (nI lf)), (5, .int (nI (wan X K fr (en - fr)))), (6, .int (nI ((spn X K fr lf (wan X K fr (en - fr)) (en - fr) + c) + 1))), (7, .int (nI (min lf (wan X K fr (en - fr))))), (8, .int (nI (fr + c + 1)))]) [2, 3, 4, 5, 6, 7, 1, 8, 0] rfl ?_
                      exact ih115 (c + 1) (by omega) (by omega) (by omega)
              refine j_lv (lv' := [(0, .ref s0), (1, .ref a0), (2, .int (nI fr)), (3, .int (nI en)), (4, .int (nI lf)), (5, .int (nI (wan X K fr (en - fr)))), (6, .int (nI (spn X K fr lf (wan X K fr (en - fr)) (en - fr)))), (7, .int (nI (min lf (wan X K fr (en - fr))))), (8, .int (nI fr))]) [2, 3, 4, 5, 6, 7, 8, 1, 0] rfl ?_
              refine j_ext (ws' := [(s0, .inr (4, [.ref s1, .ref s2, .int (nI K.length)])), (s1, .inl (cA, 10, .inl (accF (accF gv (aG X K fr) (shX X K fr lf (wan X K fr (en - fr))) (en - fr)) (aG X K fr) (fun _ => 1) 0))), (s2, .inl (cA, 80, .inl ak)), (a0, .inr (0, [.ref a1, .ref a2, .ref a3, .ref a4, .ref a5, .int (nI n)])), (a1, .inl (cA, 80, .inl (X 0))), (a2, .inl (cA, 80, .inl (X 1))), (a3, .inl (cA, 80, .inl (X 2))), (a4, .inl (cA, 80, .inl (X 3))), (a5, .inl (cA, 80, .inl (X 4)))]) 1 (g := accF (accF gv (aG X K fr) (shX X K fr lf (wan X K fr (en - fr))) (en - fr)) (aG X K fr) (fun _ => 1) 0) rfl (fun i _ => (congrFun (accF_0 _ _ _) i).symm) rfl ?_
              exact loop115 (en - fr + 1) 0 (by omega) (by omega) hspn
            · have c_44 : ¬ en ≤ (fr + c) := fun h => c_44 ((nI_leI (by omega) (by omega)).mpr h)
              have hq := hKo.2 (fr + c) (by omega)
              have hqa := hA0.2 _ hq.1
              have hb1 : X 2 (K.getD (fr + c) 0) = nI (bN X (gK K fr c)) ∧ 1 ≤ bN X (gK K fr c) ∧ bN X (gK K fr c) ≤ 1000 := bN_eq hqa hq.2
              have ha1 : X 1 (K.getD (fr + c) 0) = nI (aG X K fr c) ∧ aG X K fr c < 10 := aN_eq hqa hq.2
              refine j_aloadn F d_S_serveTime_47 1 rfl rfl ?_
              refine j_getN (ci := 0) (v := .ref a3) F in_A hK hN 3 rfl rfl 2 (by decide) n_40 rfl d_S_serveTime_48 ?_
              refine j_aloadn F d_S_serveTime_51 0 rfl rfl ?_
              refine j_get (ci := 4) (v := .ref s2) F in_S hK 0 rfl rfl 1 (by decide) (wm k_109) rfl d_S_serveTime_52 ?_
              refine j_iload F d_S_serveTime_55 7 rfl ?_
              refine j_iald (v := nI (K.getD (fr + c) 0)) F hK 2 0 rfl rfl (by omega) (by decide) d_S_serveTime_57 (hKr _ (by omega)) ?_
              refine j_iald (v := nI (bN X (gK K fr c))) F hK 6 0 rfl rfl (by omega) (by decide) d_S_serveTime_58 hb1.1 ?_
              refine j_iload F d_S_serveTime_59 4 rfl ?_
              refine j_iload F d_S_serveTime_61 5 rfl ?_
              refine j_goi (wc := []) (wr := [(s0, .inr (4, [.ref s1, .ref s2, .int (nI K.length)])), (s1, .inl (cA, 10, .inl (accF gv (aG X K fr) (shX X K fr lf (wan X K fr (en - fr))) c))), (s2, .inl (cA, 80, .inl ak)), (a0, .inr (0, [.ref a1, .ref a2, .ref a3, .ref a4, .ref a5, .int (nI n)])), (a1, .inl (cA, 80, .inl (X 0))), (a2, .inl (cA, 80, .inl (X 1))), (a3, .inl (cA, 80, .inl (X 2))), (a4, .inl (cA, 80, .inl (X 3))), (a5, .inl (cA, 80, .inl (X 4)))]) hA [] [0, 1, 2, 3, 4, 5, 6, 7, 8] rfl rfl (by decide) (by decide) (fun H locs ls hP hD hl => va_runS (As := [.int (nI (bN X (gK K fr c))), .int (nI lf), .int (nI (wan X K fr (en - fr)))]) (rest := []) F (ct_S_share l D cA (bN X (gK K fr c)) lf (wan X K fr (en - fr)) (by omega) (by omega) (by omega) H.size) ⟨callB_of 3 F.2.2.2.2 (gd k_378) rfl rfl rfl (F.2.2.2.2 _ (wm k_5)) (F.2.2.2.2 _ (wm k_376)) (by decide +kernel) ⟨by decide, by decide⟩, F.2.2.2.2 _ (wm k_377)⟩ (pre_S hK hN hP hD [] rfl (by decide)) rfl rfl hl.1 rfl (lv_room (Nat.le_of_ble_eq_true rfl)) d_S_serveTime_63 ⟨by decide, by decide⟩) (fun r63 u63 hw63 => ?_)
              subst hw63
              refine j_ws (ws' := [(s0, .inr (4, [.ref s1, .ref s2, .int (nI K.length)])), (s1, .inl (cA, 10, .inl (accF gv (aG X K fr) (shX X K fr lf (wan X K fr (en - fr))) c))), (s2, .inl (cA, 80, .inl ak)), (a0, .inr (0, [.ref a1, .ref a2, .ref a3, .ref a4, .ref a5, .int (nI n)])), (a1, .inl (cA, 80, .inl (X 0))), (a2, .inl (cA, 80, .inl (X 1))), (a3, .inl (cA, 80, .inl (X 2))), (a4, .inl (cA, 80, .inl (X 3))), (a5, .inl (cA, 80, .inl (X 4)))]) [0, 1, 2, 3, 4, 5, 6, 7, 8] (by decide) rfl ?_
              refine j_istore (lv' := [(8, .int (nI (shr (bN X (gK K fr c)) lf (wan X K fr (en - fr))))), (0, .ref s0), (1, .ref a0), (2, .int (nI fr)), (3, .int (nI en)), (4, .int (nI lf)), (5, .int (nI (wan X K fr (en - fr)))), (6, .int (nI (spn X K fr lf (wan X K fr (en - fr)) c))), (7, .int (nI (fr + c)))]) F d_S_serveTime_66 (by decide) rfl ?_
              refine j_aloadn F d_S_serveTime_68 1 rfl rfl ?_
              refine j_get (ci := 4) (v := .ref s1) F in_S hK 0 rfl rfl 0 (by decide) (wm k_107) rfl d_S_serveTime_69 ?_
              refine j_aloadn F d_S_serveTime_72 2 rfl rfl ?_
              refine j_getN (ci := 0) (v := .ref a2) F in_A hK hN 3 rfl rfl 1 (by decide) n_36 rfl d_S_serveTime_73 ?_
              refine j_aloadn F d_S_serveTime_76 1 rfl rfl ?_
              refine j_get (ci := 4) (v := .ref s2) F in_S hK 0 rfl rfl 1 (by decide) (wm k_109) rfl d_S_serveTime_77 ?_
              refine j_iload F d_S_serveTime_80 8 rfl ?_
              refine j_iald (v := nI (K.getD (fr + c) 0)) F hK 2 0 rfl rfl (by omega) (by decide) d_S_serveTime_82 (hKr _ (by omega)) ?_
              refine j_iald (v := nI (aG X K fr c)) F hK 5 0 rfl rfl (by omega) (by decide) d_S_serveTime_83 ha1.1 ?_
              refine j_dup2 F d_S_serveTime_84 rfl rfl ?_
              refine j_iald (v := (accF gv (aG X K fr) (shX X K fr lf (wan X K fr (en - fr))) c) (aG X K fr c)) F hK 1 0 rfl rfl (by omega) (by decide) d_S_serveTime_85 rfl ?_
              refine j_iload F d_S_serveTime_86 0 rfl ?_
              refine j_iadd (v := ((accF gv (aG X K fr) (shX X K fr lf (wan X K fr (en - fr))) c) (aG X K fr c)) + (nI (shr (bN X (gK K fr c)) lf (wan X K fr (en - fr))))) F d_S_serveTime_88 rfl ?_
              refine j_iast (ws' := [(s0, .inr (4, [.ref s1, .ref s2, .int (nI K.length)])), (s1, .inl (cA, 10, .inl (upd (accF gv (aG X K fr) (shX X K fr lf (wan X K fr (en - fr))) c) (aG X K fr c) (((accF gv (aG X K fr) (shX X K fr lf (wan X K fr (en - fr))) c) (aG X K fr c)) + (nI (shr (bN X (gK K fr c)) lf (wan X K fr (en - fr)))))))), (s2, .inl (cA, 80, .inl ak)), (a0, .inr (0, [.ref a1, .ref a2, .ref a3, .ref a4, .ref a5, .int (nI n)])), (a1, .inl (cA, 80, .inl (X 0))), (a2, .inl (cA, 80, .inl (X 1))), (a3, .inl (cA, 80, .inl (X 2))), (a4, .inl (cA, 80, .inl (X 3))), (a5, .inl (cA, 80, .inl (X 4)))]) F hK 1 0 rfl rfl (by omega) (by decide) d_S_serveTime_89 rfl ?_
              refine j_ext (ws' := [(s0, .inr (4, [.ref s1, .ref s2, .int (nI K.length)])), (s1, .inl (cA, 10, .inl (accF gv (aG X K fr) (shX X K fr lf (wan X K fr (en - fr))) (c + 1)))), (s2, .inl (cA, 80, .inl ak)), (a0, .inr (0, [.ref a1, .ref a2, .ref a3, .ref a4, .ref a5, .int (nI n)])), (a1, .inl (cA, 80, .inl (X 0))), (a2, .inl (cA, 80, .inl (X 1))), (a3, .inl (cA, 80, .inl (X 2))), (a4, .inl (cA, 80, .inl (X 3))), (a5, .inl (cA, 80, .inl (X 4)))]) 1 (g := accF gv (aG X K fr) (shX X K fr lf (wan X K fr (en - fr))) (c + 1)) rfl (fun i9 _ => congrFun (accF_s gv (aG X K fr) (shX X K fr lf (wan X K fr (en - fr))) c) i9) rfl ?_
              refine j_iload F d_S_serveTime_90 7 rfl ?_
              refine j_iload F d_S_serveTime_92 0 rfl ?_
              refine j_iadd (v := nI ((spn X K fr lf (wan X K fr (en - fr)) c) + (shr (bN X (gK K fr c)) lf (wan X K fr (en - fr))))) F d_S_serveTime_94 (nI_add _ _) ?_
              refine j_istore (lv' := [(6, .int (nI ((spn X K fr lf (wan X K fr (en - fr)) c) + (shr (bN X (gK K fr c)) lf (wan X K fr (en - fr)))))), (8, .int (nI (shr (bN X (gK K fr c)) lf (wan X K fr (en - fr))))), (0, .ref s0), (1, .ref a0), (2, .int (nI fr)), (3, .int (nI en)), (4, .int (nI lf)), (5, .int (nI (wan X K fr (en - fr)))), (7, .int (nI (fr + c)))]) F d_S_serveTime_95 (by decide) rfl ?_
              refine j_iinc (v := nI (fr + c + 1)) (lv' := [(7, .int (nI (fr + c + 1))), (6, .int (nI ((spn X K fr lf (wan X K fr (en - fr)) c) + (shr (bN X (gK K fr c)) lf (wan X K fr (en - fr)))))), (8, .int (nI (shr (bN X (gK K fr c)) lf (wan X K fr (en - fr))))), (0, .ref s0), (1, .ref a0), (2, .int (nI fr)), (3, .int (nI en)), (4, .int (nI lf)), (5, .int (nI (wan X K fr (en - fr))))]) F d_S_serveTime_97 8 rfl (jn_inc (fr + c)) (by decide) rfl ?_
              refine j_goto (tgt := 41) F d_S_serveTime_100 (by decide) ?_
              refine j_lv (lv' := [(0, .ref s0), (1, .ref a0), (2, .int (nI fr)), (3, .int (nI en)), (4, .int (nI lf)), (5, .int (nI (wan X K fr (en - fr)))), (6, .int (nI ((spn X K fr lf (wan X K fr (en - fr)) c) + (shr (bN X (gK K fr c)) lf (wan X K fr (en - fr)))))), (7, .int (nI (fr + c + 1)))]) [3, 4, 5, 6, 7, 8, 1, 0] rfl ?_
              exact ih41 (c + 1) (by omega) (by omega)
        refine j_lv (lv' := [(0, .ref s0), (1, .ref a0), (2, .int (nI fr)), (3, .int (nI en)), (4, .int (nI lf)), (5, .int (nI (wan X K fr (en - fr)))), (6, .int (nI 0)), (7, .int (nI fr))]) [2, 3, 4, 5, 6, 7, 1, 0] rfl ?_
        refine j_ext (ws' := [(s0, .inr (4, [.ref s1, .ref s2, .int (nI K.length)])), (s1, .inl (cA, 10, .inl (accF gv (aG X K fr) (shX X K fr lf (wan X K fr (en - fr))) 0))), (s2, .inl (cA, 80, .inl ak)), (a0, .inr (0, [.ref a1, .ref a2, .ref a3, .ref a4, .ref a5, .int (nI n)])), (a1, .inl (cA, 80, .inl (X 0))), (a2, .inl (cA, 80, .inl (X 1))), (a3, .inl (cA, 80, .inl (X 2))), (a4, .inl (cA, 80, .inl (X 3))), (a5, .inl (cA, 80, .inl (X 4)))]) 1 (g := accF gv (aG X K fr) (shX X K fr lf (wan X K fr (en - fr))) 0) rfl (fun i _ => (congrFun (accF_0 _ _ _) i).symm) rfl ?_
        exact loop41 (en - fr + 1) 0 (by omega) (by omega)
      · have c_9 : ¬ en ≤ (fr + c) := fun h => c_9 ((nI_leI (by omega) (by omega)).mpr h)
        have hq := hKo.2 (fr + c) (by omega)
        have hqa := hA0.2 _ hq.1
        have hb1 : X 2 (K.getD (fr + c) 0) = nI (bN X (gK K fr c)) ∧ 1 ≤ bN X (gK K fr c) ∧ bN X (gK K fr c) ≤ 1000 := bN_eq hqa hq.2
        have ha1 : X 1 (K.getD (fr + c) 0) = nI (aG X K fr c) ∧ aG X K fr c < 10 := aN_eq hqa hq.2
        have hwc := wan_le hA0 hKo (fr := fr) (c := c) (by omega)
        refine j_iload F d_S_serveTime_12 5 rfl ?_
        refine j_aloadn F d_S_serveTime_14 1 rfl rfl ?_
        refine j_getN (ci := 0) (v := .ref a3) F in_A hK hN 3 rfl rfl 2 (by decide) n_40 rfl d_S_serveTime_15 ?_
        refine j_aloadn F d_S_serveTime_18 0 rfl rfl ?_
        refine j_get (ci := 4) (v := .ref s2) F in_S hK 0 rfl rfl 1 (by decide) (wm k_109) rfl d_S_serveTime_19 ?_
        refine j_iload F d_S_serveTime_22 6 rfl ?_
        refine j_iald (v := nI (K.getD (fr + c) 0)) F hK 2 0 rfl rfl (by omega) (by decide) d_S_serveTime_24 (hKr _ (by omega)) ?_
        refine j_iald (v := nI (bN X (gK K fr c))) F hK 6 0 rfl rfl (by omega) (by decide) d_S_serveTime_25 hb1.1 ?_
        refine j_iadd (v := nI (wan X K fr c + (bN X (gK K fr c)))) F d_S_serveTime_26 (nI_add _ _) ?_
        refine j_istore (lv' := [(5, .int (nI (wan X K fr c + (bN X (gK K fr c))))), (0, .ref s0), (1, .ref a0), (2, .int (nI fr)), (3, .int (nI en)), (4, .int (nI lf)), (6, .int (nI (fr + c)))]) F d_S_serveTime_27 (by decide) rfl ?_
        refine j_iinc (v := nI (fr + c + 1)) (lv' := [(6, .int (nI (fr + c + 1))), (5, .int (nI (wan X K fr c + (bN X (gK K fr c))))), (0, .ref s0), (1, .ref a0), (2, .int (nI fr)), (3, .int (nI en)), (4, .int (nI lf))]) F d_S_serveTime_29 6 rfl (jn_inc (fr + c)) (by decide) rfl ?_
        refine j_goto (tgt := 6) F d_S_serveTime_32 (by decide) ?_
        refine j_lv (lv' := [(0, .ref s0), (1, .ref a0), (2, .int (nI fr)), (3, .int (nI en)), (4, .int (nI lf)), (5, .int (nI (wan X K fr c + (bN X (gK K fr c))))), (6, .int (nI (fr + c + 1)))]) [2, 3, 4, 5, 6, 1, 0] rfl ?_
        exact ih6 (c + 1) (by omega) (by omega)
  refine j_lv (lv' := [(0, .ref s0), (1, .ref a0), (2, .int (nI fr)), (3, .int (nI en)), (4, .int (nI lf)), (5, .int (nI 0)), (6, .int (nI fr))]) [2, 3, 4, 5, 6, 1, 0] rfl ?_
  exact loop6 (en - fr + 1) 0 (by omega) (by omega)

def rm_S_serveAll : Room := { frames := 2, cells := 0, slots := 0, locals := 52 }
set_option maxHeartbeats 4000000 in
set_option maxRecDepth 100000 in
theorem ct_S_serveAll (l : Launch) (D : va_G) (cA : ClassId) (s0 s1 s2 : Nat) (z : Int32) (gv ak : Nat → Int32) (o0 o1 : Nat) (g : Nat → Int32) (L : List Nat) (a0 a1 a2 a3 a4 a5 : Nat) (X : AF) (n : Nat) (hA0 : aok X n) (hL : rowL g L) (hlen : L.length ≤ 80) (hmem : ∀ i, i < L.length → L.getD i 0 < n) : Cv (S := (Nat → Int32)) l y_S_serveAll (Cond.code y_S_serveAll c_S_serveAll 5 none :: WD) rm_S_serveAll D vwCl [(cA, .int)] nws [.ref s0, .ref a0, .ref o0] [(s0, .inr (4, [.ref s1, .ref s2, .int z])), (s1, .inl (cA, 10, .inl gv)), (s2, .inl (cA, 80, .inl ak)), (o0, .inr (2, [.ref o1, .int (nI L.length)])), (o1, .inl (cA, 80, .inl g)), (a0, .inr (0, [.ref a1, .ref a2, .ref a3, .ref a4, .ref a5, .int (nI n)])), (a1, .inl (cA, 80, .inl (X 0))), (a2, .inl (cA, 80, .inl (X 1))), (a3, .inl (cA, 80, .inl (X 2))), (a4, .inl (cA, 80, .inl (X 3))), (a5, .inl (cA, 80, .inl (X 4)))] 0 0 (fun _ => True) (fun u => [(s0, .inr (4, [.ref s1, .ref s2, .int (nI ((asksL X L).length))])), (s1, .inl (cA, 10, .inl ((saT X (asksL X L) (asksL X L).length).2))), (s2, .inl (cA, 80, .inl u)), (o0, .inr (2, [.ref o1, .int (nI L.length)])), (o1, .inl (cA, 80, .inl g)), (a0, .inr (0, [.ref a1, .ref a2, .ref a3, .ref a4, .ref a5, .int (nI n)])), (a1, .inl (cA, 80, .inl (X 0))), (a2, .inl (cA, 80, .inl (X 1))), (a3, .inl (cA, 80, .inl (X 2))), (a4, .inl (cA, 80, .inl (X 3))), (a5, .inl (cA, 80, .inl (X 4)))]) := by
  refine Cv.of (cc := c_S_serveAll) (nL := 5) (lv := [(0, .ref s0), (1, .ref a0), (2, .ref o0)]) (by decide) rfl (Nat.le_of_ble_eq_true rfl) rfl ?_
  intro p e s m args below meth cd A Q F hK hN hA hinit ret
  have h80 := hA0.1
  refine j_aloadn F d_S_serveAll_0 0 rfl rfl ?_
  refine j_get (ci := 4) (v := .ref s1) F in_S hK 0 rfl rfl 0 (by decide) (wm k_107) rfl d_S_serveAll_1 ?_
  refine j_iconst (v := nI 0) F d_S_serveAll_4 (by decide) ?_
  refine j_gov (wc := [(s1, .inl (cA, 10, .inl gv))]) (wr := [(s0, .inr (4, [.ref s1, .ref s2, .int z])), (s2, .inl (cA, 80, .inl ak)), (o0, .inr (2, [.ref o1, .int (nI L.length)])), (o1, .inl (cA, 80, .inl g)), (a0, .inr (0, [.ref a1, .ref a2, .ref a3, .ref a4, .ref a5, .int (nI n)])), (a1, .inl (cA, 80, .inl (X 0))), (a2, .inl (cA, 80, .inl (X 1))), (a3, .inl (cA, 80, .inl (X 2))), (a4, .inl (cA, 80, .inl (X 3))), (a5, .inl (cA, 80, .inl (X 4)))]) hA [1] [0, 2, 3, 4, 5, 6, 7, 8, 9, 10] rfl rfl (by decide) (by decide) (fun H locs ls hP hD hl => va_runS (As := [.ref s1, .int (nI 0)]) (rest := []) F (ct_Ar_fill l D cA s1 10 (by decide) gv (nI 0) H.size) ⟨callB_of 2 F.2.2.2.2 (gd k_314) rfl rfl rfl (F.2.2.2.2 _ (wm k_12)) (F.2.2.2.2 _ (wm k_359)) (by decide +kernel) ⟨by decide, by decide⟩, F.2.2.2.2 _ (wm k_313)⟩ (pre_S hK hN hP hD [1] rfl (by decide)) rfl rfl hl.1 rfl (lv_room (Nat.le_of_ble_eq_true rfl)) d_S_serveAll_5 ⟨by decide, by decide⟩) (fun u5 hw5 => ?_)
  refine j_ws (ws' := [(s0, .inr (4, [.ref s1, .ref s2, .int z])), (s1, .inl (cA, 10, .inl (fun _ => nI 0))), (s2, .inl (cA, 80, .inl ak)), (o0, .inr (2, [.ref o1, .int (nI L.length)])), (o1, .inl (cA, 80, .inl g)), (a0, .inr (0, [.ref a1, .ref a2, .ref a3, .ref a4, .ref a5, .int (nI n)])), (a1, .inl (cA, 80, .inl (X 0))), (a2, .inl (cA, 80, .inl (X 1))), (a3, .inl (cA, 80, .inl (X 2))), (a4, .inl (cA, 80, .inl (X 3))), (a5, .inl (cA, 80, .inl (X 4)))]) [0, 10, 1, 2, 3, 4, 5, 6, 7, 8, 9] (by decide) rfl ?_
  refine j_aloadn F d_S_serveAll_8 0 rfl rfl ?_
  refine j_aloadn F d_S_serveAll_9 1 rfl rfl ?_
  refine j_aloadn F d_S_serveAll_10 2 rfl rfl ?_
  refine j_gov (wc := [(s0, .inr (4, [.ref s1, .ref s2, .int z])), (s1, .inl (cA, 10, .inl (fun _ => nI 0))), (s2, .inl (cA, 80, .inl ak)), (o0, .inr (2, [.ref o1, .int (nI L.length)])), (o1, .inl (cA, 80, .inl g)), (a0, .inr (0, [.ref a1, .ref a2, .ref a3, .ref a4, .ref a5, .int (nI n)])), (a1, .inl (cA, 80, .inl (X 0))), (a2, .inl (cA, 80, .inl (X 1))), (a3, .inl (cA, 80, .inl (X 2))), (a4, .inl (cA, 80, .inl (X 3))), (a5, .inl (cA, 80, .inl (X 4)))]) (wr := []) hA [0, 1, 2, 3, 4, 5, 6, 7, 8, 9, 10] [] rfl rfl (by decide) (by decide) (fun H locs ls hP hD hl => va_runV (As := [.ref a0, .ref o0]) (rest := []) F (ct_S_gatherAsks l D cA s0 s1 s2 z (fun _ => nI 0) ak o0 o1 g L a0 a1 a2 a3 a4 a5 X n (by omega) hL hlen hmem H.size) ⟨callB_of 2 F.2.2.2.2 (gd k_363) rfl rfl rfl (F.2.2.2.2 _ (wm k_5)) (F.2.2.2.2 _ (wm k_360)) (by decide +kernel) ⟨by decide, by decide⟩, F.2.2.2.2 _ (wm k_362), F.2.2.2.2 _ (wm ks_17)⟩ (pre_V rfl hK hN hP hD [0, 1, 2, 3, 4, 5, 6, 7, 8, 9, 10] rfl (by decide) 0 rfl rfl) rfl rfl hl.1 rfl (lv_room (Nat.le_of_ble_eq_true rfl)) d_S_serveAll_11 ⟨by decide, by decide⟩) (fun u11 hw11 => ?_)
  refine j_ws (ws' := [(s0, .inr (4, [.ref s1, .ref s2, .int (nI ((asksL X L).length))])), (s1, .inl (cA, 10, .inl (fun _ => nI 0))), (s2, .inl (cA, 80, .inl u11)), (o0, .inr (2, [.ref o1, .int (nI L.length)])), (o1, .inl (cA, 80, .inl g)), (a0, .inr (0, [.ref a1, .ref a2, .ref a3, .ref a4, .ref a5, .int (nI n)])), (a1, .inl (cA, 80, .inl (X 0))), (a2, .inl (cA, 80, .inl (X 1))), (a3, .inl (cA, 80, .inl (X 2))), (a4, .inl (cA, 80, .inl (X 3))), (a5, .inl (cA, 80, .inl (X 4)))]) [0, 1, 2, 3, 4, 5, 6, 7, 8, 9, 10] (by decide) rfl ?_
  obtain ⟨K, hKe⟩ : ∃ K, K = asksL X L := ⟨_, rfl⟩
  rw [← hKe] at hw11 ⊢
  have hKr := hw11
  have hKo : okK X n K := by rw [hKe]; exact asks_ok hlen hmem
  have hk80 := hKo.1
  refine j_sipush (v := nI 1000) F d_S_serveAll_14 (by decide) ?_
  refine j_istoren (lv' := [(3, .int (nI 1000)), (0, .ref s0), (1, .ref a0), (2, .ref o0)]) F d_S_serveAll_17 rfl (by decide) rfl ?_
  refine j_iconst (v := nI 0) F d_S_serveAll_18 (by decide) ?_
  refine j_istore (lv' := [(4, .int (nI 0)), (3, .int (nI 1000)), (0, .ref s0), (1, .ref a0), (2, .ref o0)]) F d_S_serveAll_19 (by decide) rfl ?_
  have loop21 : ∀ (fuel : Nat) (i : Nat) (hfuel21 : K.length - i < fuel) (hi : i ≤ K.length), J p l e rm_S_serveAll s m args below meth cd D vwCl A s.heap 5 0 0 Q [(s0, .inr (4, [.ref s1, .ref s2, .int (nI K.length)])), (s1, .inl (cA, 10, .inl ((saT X K i).2))), (s2, .inl (cA, 80, .inl u11)), (o0, .inr (2, [.ref o1, .int (nI L.length)])), (o1, .inl (cA, 80, .inl g)), (a0, .inr (0, [.ref a1, .ref a2, .ref a3, .ref a4, .ref a5, .int (nI n)])), (a1, .inl (cA, 80, .inl (X 0))), (a2, .inl (cA, 80, .inl (X 1))), (a3, .inl (cA, 80, .inl (X 2))), (a4, .inl (cA, 80, .inl (X 3))), (a5, .inl (cA, 80, .inl (X 4)))] [(0, .ref s0), (1, .ref a0), (2, .ref o0), (3, .int (nI ((saT X K i).1))), (4, .int (nI i))] 21 [] := by
    intro fuel
    induction fuel with
    | zero => intro i hfuel; exact absurd hfuel (Nat.not_lt_zero _)
    | succ fuel ih21 =>
      intro i hfuel21 hi
      refine j_iload F d_S_serveAll_21 4 rfl ?_
      refine j_aloadn F d_S_serveAll_23 0 rfl rfl ?_
      refine j_get (ci := 4) (v := .int (nI K.length)) F in_S hK 0 rfl rfl 2 (by decide) (wm k_110) rfl d_S_serveAll_24 ?_
      refine j_ic_ge (tgt := 64) F d_S_serveAll_27 (by decide) (fun c_27 => ?_) (fun c_27 => ?_)
      · have c_27 : K.length ≤ i := (nI_leI (by omega) (by omega)).mp c_27
        have hin : i = K.length := by omega
        subst hin
        subst hKe
        exact ret _ _ _ _ _ u11 d_S_serveAll_64 (by decide) (by decide) rfl trivial
      · have c_27 : ¬ K.length ≤ i := fun h => c_27 ((nI_leI (by omega) (by omega)).mpr h)
        refine j_aloadn F d_S_serveAll_30 0 rfl rfl ?_
        refine j_aloadn F d_S_serveAll_31 1 rfl rfl ?_
        refine j_iload F d_S_serveAll_32 4 rfl ?_
        refine j_goi (wc := [(s0, .inr (4, [.ref s1, .ref s2, .int (nI K.length)])), (s1, .inl (cA, 10, .inl ((saT X K i).2))), (s2, .inl (cA, 80, .inl u11)), (a0, .inr (0, [.ref a1, .ref a2, .ref a3, .ref a4, .ref a5, .int (nI n)])), (a1, .inl (cA, 80, .inl (X 0))), (a2, .inl (cA, 80, .inl (X 1))), (a3, .inl (cA, 80, .inl (X 2))), (a4, .inl (cA, 80, .inl (X 3))), (a5, .inl (cA, 80, .inl (X 4)))]) (wr := [(o0, .inr (2, [.ref o1, .int (nI L.length)])), (o1, .inl (cA, 80, .inl g))]) hA [0, 1, 2, 5, 6, 7, 8, 9, 10] [3, 4] rfl rfl (by decide) (by decide) (fun H locs ls hP hD hl => va_runV (As := [.ref a0, .int (nI i)]) (rest := []) F (ct_S_startsTime l D cA s0 s1 s2 ((saT X K i).2) u11 K a0 a1 a2 a3 a4 a5 X n hA0 hKr hKo i (by omega) H.size) ⟨callB_of 2 F.2.2.2.2 (gd k_367) rfl rfl rfl (F.2.2.2.2 _ (wm k_5)) (F.2.2.2.2 _ (wm k_364)) (by decide +kernel) ⟨by decide, by decide⟩, F.2.2.2.2 _ (wm k_366), F.2.2.2.2 _ (wm ks_18)⟩ (pre_V rfl hK hN hP hD [0, 1, 2, 5, 6, 7, 8, 9, 10] rfl (by decide) 0 rfl rfl) rfl rfl hl.1 rfl (lv_room (Nat.le_of_ble_eq_true rfl)) d_S_serveAll_34 ⟨by decide, by decide⟩) (fun r34 u34 hw34 => ?_)
        subst hw34
        refine j_ws (ws' := [(s0, .inr (4, [.ref s1, .ref s2, .int (nI K.length)])), (s1, .inl (cA, 10, .inl ((saT X K i).2))), (s2, .inl (cA, 80, .inl u11)), (o0, .inr (2, [.ref o1, .int (nI L.length)])), (o1, .inl (cA, 80, .inl g)), (a0, .inr (0, [.ref a1, .ref a2, .ref a3, .ref a4, .ref a5, .int (nI n)])), (a1, .inl (cA, 80, .inl (X 0))), (a2, .inl (cA, 80, .inl (X 1))), (a3, .inl (cA, 80, .inl (X 2))), (a4, .inl (cA, 80, .inl (X 3))), (a5, .inl (cA, 80, .inl (X 4)))]) [2, 3, 4, 0, 1, 5, 6, 7, 8, 9, 10] (by decide) rfl ?_
        refine j_if_eq (tgt := 58) F d_S_serveAll_37 (by decide) (fun c_37 => ?_) (fun c_37 => ?_)
        · have ho := saT_f (bI_0 c_37)
          rw [← ho]
          refine j_iinc (v := nI (i + 1)) (lv' := [(4, .int (nI (i + 1))), (0, .ref s0), (1, .ref a0), (2, .ref o0), (3, .int (nI ((saT X K (i + 1)).1)))]) F d_S_serveAll_58 4 rfl (jn_inc i) (by decide) rfl ?_
          refine j_goto (tgt := 21) F d_S_serveAll_61 (by decide) ?_
          refine j_lv (lv' := [(0, .ref s0), (1, .ref a0), (2, .ref o0), (3, .int (nI ((saT X K (i + 1)).1))), (4, .int (nI (i + 1)))]) [1, 2, 3, 4, 0] rfl ?_
          exact ih21 (i + 1) (by omega) (by omega)
        · refine j_iloadn F d_S_serveAll_40 3 rfl rfl ?_
          refine j_aloadn F d_S_serveAll_41 0 rfl rfl ?_
          refine j_aloadn F d_S_serveAll_42 1 rfl rfl ?_
          refine j_iload F d_S_serveAll_43 4 rfl ?_
          refine j_aloadn F d_S_serveAll_45 0 rfl rfl ?_
          refine j_aloadn F d_S_serveAll_46 1 rfl rfl ?_
          refine j_iload F d_S_serveAll_47 4 rfl ?_
          refine j_goi (wc := [(s0, .inr (4, [.ref s1, .ref s2, .int (nI K.length)])), (s1, .inl (cA, 10, .inl ((saT X K i).2))), (s2, .inl (cA, 80, .inl u11)), (a0, .inr (0, [.ref a1, .ref a2, .ref a3, .ref a4, .ref a5, .int (nI n)])), (a1, .inl (cA, 80, .inl (X 0))), (a2, .inl (cA, 80, .inl (X 1))), (a3, .inl (cA, 80, .inl (X 2))), (a4, .inl (cA, 80, .inl (X 3))), (a5, .inl (cA, 80, .inl (X 4)))]) (wr := [(o0, .inr (2, [.ref o1, .int (nI L.length)])), (o1, .inl (cA, 80, .inl g))]) hA [0, 1, 2, 5, 6, 7, 8, 9, 10] [3, 4] rfl rfl (by decide) (by decide) (fun H locs ls hP hD hl => va_runV (As := [.ref a0, .int (nI i)]) (rest := [.int (nI i), .ref a0, .ref s0, .int (nI ((saT X K i).1))]) F (ct_S_endOfTime l D cA s0 s1 s2 ((saT X K i).2) u11 K a0 a1 a2 a3 a4 a5 X n hA0 hKr hKo i (by omega) H.size) ⟨callB_of 2 F.2.2.2.2 (gd k_371) rfl rfl rfl (F.2.2.2.2 _ (wm k_5)) (F.2.2.2.2 _ (wm k_368)) (by decide +kernel) ⟨by decide, by decide⟩, F.2.2.2.2 _ (wm k_370), F.2.2.2.2 _ (wm ks_19)⟩ (pre_V rfl hK hN hP hD [0, 1, 2, 5, 6, 7, 8, 9, 10] rfl (by decide) 0 rfl rfl) rfl rfl hl.1 rfl (lv_room (Nat.le_of_ble_eq_true rfl)) d_S_serveAll_49 ⟨by decide, by decide⟩) (fun r49 u49 hw49 => ?_)
          subst hw49
          refine j_ws (ws' := [(s0, .inr (4, [.ref s1, .ref s2, .int (nI K.length)])), (s1, .inl (cA, 10, .inl ((saT X K i).2))), (s2, .inl (cA, 80, .inl u11)), (o0, .inr (2, [.ref o1, .int (nI L.length)])), (o1, .inl (cA, 80, .inl g)), (a0, .inr (0, [.ref a1, .ref a2, .ref a3, .ref a4, .ref a5, .int (nI n)])), (a1, .inl (cA, 80, .inl (X 0))), (a2, .inl (cA, 80, .inl (X 1))), (a3, .inl (cA, 80, .inl (X 2))), (a4, .inl (cA, 80, .inl (X 3))), (a5, .inl (cA, 80, .inl (X 4)))]) [2, 3, 4, 0, 1, 5, 6, 7, 8, 9, 10] (by decide) rfl ?_
          refine j_iloadn F d_S_serveAll_52 3 rfl rfl ?_
          have heo := eoT_in (X := X) (K := K) (i := i) (by omega)
          have hsl := saT_le X K i
          refine j_goi (wc := [(s0, .inr (4, [.ref s1, .ref s2, .int (nI K.length)])), (s1, .inl (cA, 10, .inl ((saT X K i).2))), (s2, .inl (cA, 80, .inl u11)), (a0, .inr (0, [.ref a1, .ref a2, .ref a3, .ref a4, .ref a5, .int (nI n)])), (a1, .inl (cA, 80, .inl (X 0))), (a2, .inl (cA, 80, .inl (X 1))), (a3, .inl (cA, 80, .inl (X 2))), (a4, .inl (cA, 80, .inl (X 3))), (a5, .inl (cA, 80, .inl (X 4)))]) (wr := [(o0, .inr (2, [.ref o1, .int (nI L.length)])), (o1, .inl (cA, 80, .inl g))]) hA [0, 1, 2, 5, 6, 7, 8, 9, 10] [3, 4] rfl rfl (by decide) (by decide) (fun H locs ls hP hD hl => va_runV (As := [.ref a0, .int (nI i), .int (nI (eoT X K i)), .int (nI ((saT X K i).1))]) (rest := [.int (nI ((saT X K i).1))]) F (ct_S_serveTime l D cA s0 s1 s2 ((saT X K i).2) u11 K a0 a1 a2 a3 a4 a5 X n hA0 hKr hKo i (eoT X K i) ((saT X K i).1) (by omega) (by omega) (by omega) H.size) ⟨callB_of 4 F.2.2.2.2 (gd k_375) rfl rfl rfl (F.2.2.2.2 _ (wm k_5)) (F.2.2.2.2 _ (wm k_372)) (by decide +kernel) ⟨by decide, by decide⟩, F.2.2.2.2 _ (wm k_374), F.2.2.2.2 _ (wm ks_20)⟩ (pre_V rfl hK hN hP hD [0, 1, 2, 5, 6, 7, 8, 9, 10] rfl (by decide) 0 rfl rfl) rfl rfl hl.1 rfl (lv_room (Nat.le_of_ble_eq_true rfl)) d_S_serveAll_53 ⟨by decide, by decide⟩) (fun r53 u53 hw53 => ?_)
          subst hw53
          refine j_ws (ws' := [(s0, .inr (4, [.ref s1, .ref s2, .int (nI K.length)])), (s1, .inl (cA, 10, .inl (srvG ((saT X K i).2) X K i (eoT X K i - i) ((saT X K i).1)))), (s2, .inl (cA, 80, .inl u11)), (o0, .inr (2, [.ref o1, .int (nI L.length)])), (o1, .inl (cA, 80, .inl g)), (a0, .inr (0, [.ref a1, .ref a2, .ref a3, .ref a4, .ref a5, .int (nI n)])), (a1, .inl (cA, 80, .inl (X 0))), (a2, .inl (cA, 80, .inl (X 1))), (a3, .inl (cA, 80, .inl (X 2))), (a4, .inl (cA, 80, .inl (X 3))), (a5, .inl (cA, 80, .inl (X 4)))]) [2, 3, 4, 0, 1, 5, 6, 7, 8, 9, 10] (by decide) rfl ?_
          refine j_isub (v := nI ((saT X K (i + 1)).1)) F d_S_serveAll_56 (by rw [saT_t (bI_1 c_37)]; exact pk_sub (srvR_le _ _ _ _ _)) ?_
          refine j_istoren (lv' := [(3, .int (nI ((saT X K (i + 1)).1))), (0, .ref s0), (1, .ref a0), (2, .ref o0), (4, .int (nI i))]) F d_S_serveAll_57 rfl (by decide) rfl ?_
          refine j_ext (ws' := [(s0, .inr (4, [.ref s1, .ref s2, .int (nI K.length)])), (s1, .inl (cA, 10, .inl ((saT X K (i + 1)).2))), (s2, .inl (cA, 80, .inl u11)), (o0, .inr (2, [.ref o1, .int (nI L.length)])), (o1, .inl (cA, 80, .inl g)), (a0, .inr (0, [.ref a1, .ref a2, .ref a3, .ref a4, .ref a5, .int (nI n)])), (a1, .inl (cA, 80, .inl (X 0))), (a2, .inl (cA, 80, .inl (X 1))), (a3, .inl (cA, 80, .inl (X 2))), (a4, .inl (cA, 80, .inl (X 3))), (a5, .inl (cA, 80, .inl (X 4)))]) 1 (g := (saT X K (i + 1)).2) rfl (fun j _ => congrFun (by rw [saT_t (bI_1 c_37)]) j) rfl ?_
          refine j_iinc (v := nI (i + 1)) (lv' := [(4, .int (nI (i + 1))), (3, .int (nI ((saT X K (i + 1)).1))), (0, .ref s0), (1, .ref a0), (2, .ref o0)]) F d_S_serveAll_58 4 rfl (jn_inc i) (by decide) rfl ?_
          refine j_goto (tgt := 21) F d_S_serveAll_61 (by decide) ?_
          refine j_lv (lv' := [(0, .ref s0), (1, .ref a0), (2, .ref o0), (3, .int (nI ((saT X K (i + 1)).1))), (4, .int (nI (i + 1)))]) [2, 3, 4, 1, 0] rfl ?_
          exact ih21 (i + 1) (by omega) (by omega)
  refine j_lv (lv' := [(0, .ref s0), (1, .ref a0), (2, .ref o0), (3, .int (nI 1000)), (4, .int (nI 0))]) [2, 3, 4, 1, 0] rfl ?_
  exact loop21 (K.length + 1) 0 (by omega) (by omega)
