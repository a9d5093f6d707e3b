def rm_O_insert : Room := { frames := 1, cells := 0, slots := 0, locals := 22 }
set_option maxHeartbeats 4000000 in
set_option maxRecDepth 100000 in
theorem ct_O_insert (l : Launch) (D : va_G) (cA : ClassId) (o0 o1 : Nat) (f : Nat → Int32) (L : List Nat) (a0 a1 a2 a3 a4 a5 : Nat) (X : AF) (n : Nat) (hn : n ≤ 80) (hL : rowL f L) (hlen : L.length < 80) (hmem : ∀ i, i < L.length → L.getD i 0 < n) (x : Nat) (hx : x < n) : Cv (S := (Nat → Int32)) l y_O_insert (Cond.code y_O_insert c_O_insert 4 none :: WD) rm_O_insert D vwCl [(cA, .int)] nws [.ref o0, .ref a0, .int (nI x)] [(o0, .inr (2, [.ref o1, .int (nI L.length)])), (o1, .inl (cA, 80, .inl f)), (a0, .inr (0, [.ref a1, .ref a2, .ref a3, .ref a4, .ref a5, .int (nI n)])), (a1, .inl (cA, 80, .inl (X 0))), (a2, .inl (cA, 80, .inl (X 1))), (a3, .inl (cA, 80, .inl (X 2))), (a4, .inl (cA, 80, .inl (X 3))), (a5, .inl (cA, 80, .inl (X 4)))] 0 0 (fun u => rowL u (ins X L x)) (fun u => [(o0, .inr (2, [.ref o1, .int (nI (L.length + 1))])), (o1, .inl (cA, 80, .inl u)), (a0, .inr (0, [.ref a1, .ref a2, .ref a3, .ref a4, .ref a5, .int (nI n)])), (a1, .inl (cA, 80, .inl (X 0))), (a2, .inl (cA, 80, .inl (X 1))), (a3, .inl (cA, 80, .inl (X 2))), (a4, .inl (cA, 80, .inl (X 3))), (a5, .inl (cA, 80, .inl (X 4)))]) := by
  refine Cv.of (cc := c_O_insert) (nL := 4) (lv := [(0, .ref o0), (1, .ref a0), (2, .int (nI x))]) (by decide) rfl (Nat.le_of_ble_eq_true rfl) rfl ?_
  intro p e s m args below meth cd A Q F hK hN hA hinit ret
  refine j_aloadn F d_O_insert_0 0 rfl rfl ?_
  refine j_get (ci := 2) (v := .int (nI L.length)) F in_O hK 0 rfl rfl 1 (by decide) (wm k_73) rfl d_O_insert_1 ?_
  refine j_istoren (lv' := [(3, .int (nI L.length)), (0, .ref o0), (1, .ref a0), (2, .int (nI x))]) F d_O_insert_4 rfl (by decide) rfl ?_
  have loop5 : ∀ (fuel : Nat) (sp : Nat) (g : Nat → Int32) (hfuel5 : sp < fuel) (hsp : sp ≤ L.length) (hs : insPos X L x sp = insPos X L x L.length) (hlo : ∀ i, i < sp → g i = f i) (hhi : ∀ i, sp < i → i ≤ L.length → g i = f (i - 1)), J p l e rm_O_insert s m args below meth cd D vwCl A s.heap 4 0 0 Q [(o0, .inr (2, [.ref o1, .int (nI L.length)])), (o1, .inl (cA, 80, .inl g)), (a0, .inr (0, [.ref a1, .ref a2, .ref a3, .ref a4, .ref a5, .int (nI n)])), (a1, .inl (cA, 80, .inl (X 0))), (a2, .inl (cA, 80, .inl (X 1))), (a3, .inl (cA, 80, .inl (X 2))), (a4, .inl (cA, 80, .inl (X 3))), (a5, .inl (cA, 80, .inl (X 4)))] [(0, .ref o0), (1, .ref a0), (2, .int (nI x)), (3, .int (nI sp))] 5 [] := by
    intro fuel
    induction fuel with
    | zero => intro sp g hfuel; exact absurd hfuel (Nat.not_lt_zero _)
    | succ fuel ih5 =>
      intro sp g hfuel5 hsp hs hlo hhi
      refine j_iloadn F d_O_insert_5 3 rfl rfl ?_
      refine j_if_le (tgt := 45) F d_O_insert_6 (by decide) (fun c_6 => ?_) (fun c_6 => ?_)
      · have c_6 : sp ≤ 0 := (nI_leI (by omega) (by omega)).mp c_6
        refine j_aloadn F d_O_insert_45 0 rfl rfl ?_
        refine j_get (ci := 2) (v := .ref o1) F in_O hK 0 rfl rfl 0 (by decide) (wm k_70) rfl d_O_insert_46 ?_
        refine j_iloadn F d_O_insert_49 3 rfl rfl ?_
        refine j_iloadn F d_O_insert_50 2 rfl rfl ?_
        refine j_iast (ws' := [(o0, .inr (2, [.ref o1, .int (nI L.length)])), (o1, .inl (cA, 80, .inl (upd g sp (nI x)))), (a0, .inr (0, [.ref a1, .ref a2, .ref a3, .ref a4, .ref a5, .int (nI n)])), (a1, .inl (cA, 80, .inl (X 0))), (a2, .inl (cA, 80, .inl (X 1))), (a3, .inl (cA, 80, .inl (X 2))), (a4, .inl (cA, 80, .inl (X 3))), (a5, .inl (cA, 80, .inl (X 4)))]) F hK 1 0 rfl rfl (by omega) (by decide) d_O_insert_51 rfl ?_
        refine j_aloadn F d_O_insert_52 0 rfl rfl ?_
        refine j_dup F d_O_insert_53 rfl ?_
        refine j_get (ci := 2) (v := .int (nI L.length)) F in_O hK 0 rfl rfl 1 (by decide) (wm k_73) rfl d_O_insert_54 ?_
        refine j_iconst (v := nI 1) F d_O_insert_57 (by decide) ?_
        refine j_iadd (v := nI (L.length + 1)) F d_O_insert_58 (nI_add _ _) ?_
        refine j_put (ci := 2) (v := .int (nI (L.length + 1))) (ty := .int) (ws' := [(o0, .inr (2, [.ref o1, .int (nI (L.length + 1))])), (o1, .inl (cA, 80, .inl (upd g sp (nI x)))), (a0, .inr (0, [.ref a1, .ref a2, .ref a3, .ref a4, .ref a5, .int (nI n)])), (a1, .inl (cA, 80, .inl (X 0))), (a2, .inl (cA, 80, .inl (X 1))), (a3, .inl (cA, 80, .inl (X 2))), (a4, .inl (cA, 80, .inl (X 3))), (a5, .inl (cA, 80, .inl (X 4)))]) F in_O ty_O tk_O nm_O hK 0 rfl rfl 1 (by decide) (wm k_73) rfl (by decide +kernel) rfl rfl (Nat.le_of_ble_eq_true rfl) d_O_insert_59 rfl ?_
        exact ret _ _ _ _ _ (upd g sp (nI x)) d_O_insert_62 (by decide) (by decide) rfl (ins_row hsp hs (by have h0 : sp = 0 := (by omega); subst h0; rfl) hL hlo hhi)
      · have c_6 : ¬ sp ≤ 0 := fun h => c_6 ((nI_leI (by omega) (by omega)).mpr h)
        refine j_aloadn F d_O_insert_9 1 rfl rfl ?_
        refine j_iloadn F d_O_insert_10 2 rfl rfl ?_
        refine j_aloadn F d_O_insert_11 0 rfl rfl ?_
        refine j_get (ci := 2) (v := .ref o1) F in_O hK 0 rfl rfl 0 (by decide) (wm k_70) rfl d_O_insert_12 ?_
        refine j_iloadn F d_O_insert_15 3 rfl rfl ?_
        refine j_iconst (v := nI 1) F d_O_insert_16 (by decide) ?_
        refine j_isub (v := nI (sp - 1)) F d_O_insert_17 (pk_sub (by omega)) ?_
        refine j_iald (v := nI (L.getD (sp - 1) 0)) F hK 1 0 rfl rfl (by omega) (by decide) d_O_insert_18 (by rw [hlo _ (by omega)]; exact hL _ (by omega)) ?_
        have hm := hmem (sp - 1) (by omega)
        refine j_goi (wc := [(a0, .inr (0, [.ref a1, .ref a2, .ref a3, .ref a4, .ref a5, .int (nI n)])), (a1, .inl (cA, 80, .inl (X 0))), (a2, .inl (cA, 80, .inl (X 1))), (a3, .inl (cA, 80, .inl (X 2))), (a4, .inl (cA, 80, .inl (X 3))), (a5, .inl (cA, 80, .inl (X 4)))]) (wr := [(o0, .inr (2, [.ref o1, .int (nI L.length)])), (o1, .inl (cA, 80, .inl g))]) hA [2, 3, 4, 5, 6, 7] [0, 1] rfl rfl (by decide) (by decide) (fun H locs ls hP hD hl => va_runVN (As := [.int (nI x), .int (nI (L.getD (sp - 1) 0))]) (rest := []) F (ct_A_goesAhead l D cA a0 a1 a2 a3 a4 a5 X n (by omega) x (L.getD (sp - 1) 0) (by omega) (by omega) H.size) ⟨va_cnB 2 F.2.2.2.2 (gd k_307) rfl rfl rfl (hN _ n_304).1 (F.2.2.2.2 _ (wm k_2)) (by decide +kernel) ⟨by decide, by decide⟩, F.2.2.2.2 _ (wm k_306), F.2.2.2.2 _ (wm ks_12)⟩ (pre_V rfl hK hN hP hD [2, 3, 4, 5, 6, 7] rfl (by decide) 2 rfl rfl) rfl rfl hl.1 rfl (lv_room (Nat.le_of_ble_eq_true rfl)) d_O_insert_19 ⟨by decide, by decide⟩) (fun r19 u19 hw19 => ?_)
        subst hw19
        refine j_ws (ws' := [(o0, .inr (2, [.ref o1, .int (nI L.length)])), (o1, .inl (cA, 80, .inl g)), (a0, .inr (0, [.ref a1, .ref a2, .ref a3, .ref a4, .ref a5, .int (nI n)])), (a1, .inl (cA, 80, .inl (X 0))), (a2, .inl (cA, 80, .inl (X 1))), (a3, .inl (cA, 80, .inl (X 2))), (a4, .inl (cA, 80, .inl (X 3))), (a5, .inl (cA, 80, .inl (X 4)))]) [0, 1, 2, 3, 4, 5, 6, 7] (by decide) rfl ?_
        refine j_if_eq (tgt := 45) F d_O_insert_22 (by decide) (fun c_22 => ?_) (fun c_22 => ?_)
        · refine j_aloadn F d_O_insert_45 0 rfl rfl ?_
          refine j_get (ci := 2) (v := .ref o1) F in_O hK 0 rfl rfl 0 (by decide) (wm k_70) rfl d_O_insert_46 ?_
          refine j_iloadn F d_O_insert_49 3 rfl rfl ?_
          refine j_iloadn F d_O_insert_50 2 rfl rfl ?_
          refine j_iast (ws' := [(o0, .inr (2, [.ref o1, .int (nI L.length)])), (o1, .inl (cA, 80, .inl (upd g sp (nI x)))), (a0, .inr (0, [.ref a1, .ref a2, .ref a3, .ref a4, .ref a5, .int (nI n)])), (a1, .inl (cA, 80, .inl (X 0))), (a2, .inl (cA, 80, .inl (X 1))), (a3, .inl (cA, 80, .inl (X 2))), (a4, .inl (cA, 80, .inl (X 3))), (a5, .inl (cA, 80, .inl (X 4)))]) F hK 1 0 rfl rfl (by omega) (by decide) d_O_insert_51 rfl ?_
          refine j_aloadn F d_O_insert_52 0 rfl rfl ?_
          refine j_dup F d_O_insert_53 rfl ?_
          refine j_get (ci := 2) (v := .int (nI L.length)) F in_O hK 0 rfl rfl 1 (by decide) (wm k_73) rfl d_O_insert_54 ?_
          refine j_iconst (v := nI 1) F d_O_insert_57 (by decide) ?_
          refine j_iadd (v := nI (L.length + 1)) F d_O_insert_58 (nI_add _ _) ?_
          refine j_put (ci := 2) (v := .int (nI (L.length + 1))) (ty := .int) (ws' := [(o0, .inr (2, [.ref o1, .int (nI (L.length + 1))])), (o1, .inl (cA, 80, .inl (upd g sp (nI x)))), (a0, .inr (0, [.ref a1, .ref a2, .ref a3, .ref a4, .ref a5, .int (nI n)])), (a1, .inl (cA, 80, .inl (X 0))), (a2, .inl (cA, 80, .inl (X 1))), (a3, .inl (cA, 80, .inl (X 2))), (a4, .inl (cA, 80, .inl (X 3))), (a5, .inl (cA, 80, .inl (X 4)))]) F in_O ty_O tk_O nm_O hK 0 rfl rfl 1 (by decide) (wm k_73) rfl (by decide +kernel) rfl rfl (Nat.le_of_ble_eq_true rfl) d_O_insert_59 rfl ?_
          exact ret _ _ _ _ _ (upd g sp (nI x)) d_O_insert_62 (by decide) (by decide) rfl (ins_row hsp hs (insPos_stop (by omega) (bI_0 c_22)) hL hlo hhi)
        · refine j_aloadn F d_O_insert_25 0 rfl rfl ?_
          refine j_get (ci := 2) (v := .ref o1) F in_O hK 0 rfl rfl 0 (by decide) (wm k_70) rfl d_O_insert_26 ?_
          refine j_iloadn F d_O_insert_29 3 rfl rfl ?_
          refine j_aloadn F d_O_insert_30 0 rfl rfl ?_
          refine j_get (ci := 2) (v := .ref o1) F in_O hK 0 rfl rfl 0 (by decide) (wm k_70) rfl d_O_insert_31 ?_
          refine j_iloadn F d_O_insert_34 3 rfl rfl ?_
          refine j_iconst (v := nI 1) F d_O_insert_35 (by decide) ?_
          refine j_isub (v := nI (sp - 1)) F d_O_insert_36 (pk_sub (by omega)) ?_
          refine j_iald (v := g (sp - 1)) F hK 1 0 rfl rfl (by omega) (by decide) d_O_insert_37 rfl ?_
          refine j_iast (ws' := [(o0, .inr (2, [.ref o1, .int (nI L.length)])), (o1, .inl (cA, 80, .inl (upd g sp (g (sp - 1))))), (a0, .inr (0, [.ref a1, .ref a2, .ref a3, .ref a4, .ref a5, .int (nI n)])), (a1, .inl (cA, 80, .inl (X 0))), (a2, .inl (cA, 80, .inl (X 1))), (a3, .inl (cA, 80, .inl (X 2))), (a4, .inl (cA, 80, .inl (X 3))), (a5, .inl (cA, 80, .inl (X 4)))]) F hK 1 0 rfl rfl (by omega) (by decide) d_O_insert_38 rfl ?_
          refine j_iinc (v := nI (sp - 1)) (lv' := [(3, .int (nI (sp - 1))), (0, .ref o0), (1, .ref a0), (2, .int (nI x))]) F d_O_insert_39 3 rfl (jn_dec (by omega)) (by decide) rfl ?_
          refine j_goto (tgt := 5) F d_O_insert_42 (by decide) ?_
          refine j_lv (lv' := [(0, .ref o0), (1, .ref a0), (2, .int (nI x)), (3, .int (nI (sp - 1)))]) [1, 2, 3, 0] rfl ?_
          exact ih5 (sp - 1) (upd g sp (g (sp - 1))) (by omega) (by omega) (by rw [← insPos_go (by omega) (bI_1 c_22)]; exact hs) (fun i hi => by rw [upd_ne (by omega)]; exact hlo i (by omega)) (fun i h1 h2 => by
            by_cases e1 : i = sp
            · subst e1; rw [upd_eq, hlo (i - 1) (by omega)]
            · rw [upd_ne e1, hhi i (by omega) h2])
  refine j_lv (lv' := [(0, .ref o0), (1, .ref a0), (2, .int (nI x)), (3, .int (nI L.length))]) [1, 2, 3, 0] rfl ?_
  exact loop5 (L.length + 1) L.length f (by omega) (by omega) rfl (fun _ _ => rfl) (fun i h1 h2 => by omega)

def rm_O_gather : Room := { frames := 2, cells := 0, slots := 0, locals := 46 }
set_option maxHeartbeats 4000000 in
set_option maxRecDepth 100000 in
theorem ct_O_gather (l : Launch) (D : va_G) (cA : ClassId) (o0 o1 : Nat) (z : Int32) (f : Nat → Int32) (a0 a1 a2 a3 a4 a5 : Nat) (X : AF) (n : Nat) (hA0 : aok X n) (t k : Int32) : Cv (S := (Nat → Int32)) l y_O_gather (Cond.code y_O_gather c_O_gather 5 none :: WD) rm_O_gather D vwCl [(cA, .int)] nws [.ref o0, .ref a0, .int t, .int k] [(o0, .inr (2, [.ref o1, .int z])), (o1, .inl (cA, 80, .inl f)), (a0, .inr (0, [.ref a1, .ref a2, .ref a3, .ref a4, .ref a5, .int (nI n)])), (a1, .inl (cA, 80, .inl (X 0))), (a2, .inl (cA, 80, .inl (X 1))), (a3, .inl (cA, 80, .inl (X 2))), (a4, .inl (cA, 80, .inl (X 3))), (a5, .inl (cA, 80, .inl (X 4)))] 0 0 (fun u => rowL u (ordL X n t k)) (fun u => [(o0, .inr (2, [.ref o1, .int (nI ((ordL X n t k).length))])), (o1, .inl (cA, 80, .inl u)), (a0, .inr (0, [.ref a1, .ref a2, .ref a3, .ref a4, .ref a5, .int (nI n)])), (a1, .inl (cA, 80, .inl (X 0))), (a2, .inl (cA, 80, .inl (X 1))), (a3, .inl (cA, 80, .inl (X 2))), (a4, .inl (cA, 80, .inl (X 3))), (a5, .inl (cA, 80, .inl (X 4)))]) := by
  refine Cv.of (cc := c_O_gather) (nL := 5) (lv := [(0, .ref o0), (1, .ref a0), (2, .int t), (3, .int k)]) (by decide) rfl (Nat.le_of_ble_eq_true rfl) rfl ?_
  intro p e s m args below meth cd A Q F hK hN hA hinit ret
  have h80 := hA0.1
  refine j_aloadn F d_O_gather_0 0 rfl rfl ?_
  refine j_iconst (v := nI 0) F d_O_gather_1 (by decide) ?_
  refine j_put (ci := 2) (v := .int (nI 0)) (ty := .int) (ws' := [(o0, .inr (2, [.ref o1, .int (nI 0)])), (o1, .inl (cA, 80, .inl f)), (a0, .inr (0, [.ref a1, .ref a2, .ref a3, .ref a4, .ref a5, .int (nI n)])), (a1, .inl (cA, 80, .inl (X 0))), (a2, .inl (cA, 80, .inl (X 1))), (a3, .inl (cA, 80, .inl (X 2))), (a4, .inl (cA, 80, .inl (X 3))), (a5, .inl (cA, 80, .inl (X 4)))]) F in_O ty_O tk_O nm_O hK 0 rfl rfl 1 (by decide) (wm k_73) rfl (by decide +kernel) rfl rfl (Nat.le_of_ble_eq_true rfl) d_O_gather_2 rfl ?_
  refine j_iconst (v := nI 0) F d_O_gather_5 (by decide) ?_
  refine j_istore (lv' := [(4, .int (nI 0)), (0, .ref o0), (1, .ref a0), (2, .int t), (3, .int k)]) F d_O_gather_6 (by decide) rfl ?_
  have loop8 : ∀ (fuel : Nat) (i : Nat) (g : Nat → Int32) (hfuel8 : n - i < fuel) (hi : i ≤ n) (hg : rowL g (ordTo X n t k i)), J p l e rm_O_gather s m args below meth cd D vwCl A s.heap 5 0 0 Q [(o0, .inr (2, [.ref o1, .int (nI ((ordTo X n t k i).length))])), (o1, .inl (cA, 80, .inl g)), (a0, .inr (0, [.ref a1, .ref a2, .ref a3, .ref a4, .ref a5, .int (nI n)])), (a1, .inl (cA, 80, .inl (X 0))), (a2, .inl (cA, 80, .inl (X 1))), (a3, .inl (cA, 80, .inl (X 2))), (a4, .inl (cA, 80, .inl (X 3))), (a5, .inl (cA, 80, .inl (X 4)))] [(0, .ref o0), (1, .ref a0), (2, .int t), (3, .int k), (4, .int (nI i))] 8 [] := by
    intro fuel
    induction fuel with
    | zero => intro i g hfuel; exact absurd hfuel (Nat.not_lt_zero _)
    | succ fuel ih8 =>
      intro i g hfuel8 hi hg
      refine j_iload F d_O_gather_8 4 rfl ?_
      refine j_aloadn F d_O_gather_10 1 rfl rfl ?_
      refine j_getN (ci := 0) (v := .int (nI n)) F in_A hK hN 2 rfl rfl 5 (by decide) n_48 rfl d_O_gather_11 ?_
      refine j_ic_ge (tgt := 41) F d_O_gather_14 (by decide) (fun c_14 => ?_) (fun c_14 => ?_)
      · have c_14 : n ≤ i := (nI_leI (by omega) (by omega)).mp c_14
        have hin : i = n := by omega
        subst hin
        exact ret _ _ _ _ _ g d_O_gather_41 (by decide) (by decide) rfl hg
      · have c_14 : ¬ n ≤ i := fun h => c_14 ((nI_leI (by omega) (by omega)).mpr h)
        refine j_aloadn F d_O_gather_17 1 rfl rfl ?_
        refine j_iload F d_O_gather_18 4 rfl ?_
        refine j_iloadn F d_O_gather_20 2 rfl rfl ?_
        refine j_iloadn F d_O_gather_21 3 rfl rfl ?_
        refine j_goi (wc := [(a0, .inr (0, [.ref a1, .ref a2, .ref a3, .ref a4, .ref a5, .int (nI n)])), (a1, .inl (cA, 80, .inl (X 0))), (a2, .inl (cA, 80, .inl (X 1))), (a3, .inl (cA, 80, .inl (X 2))), (a4, .inl (cA, 80, .inl (X 3))), (a5, .inl (cA, 80, .inl (X 4)))]) (wr := [(o0, .inr (2, [.ref o1, .int (nI ((ordTo X n t k i).length))])), (o1, .inl (cA, 80, .inl g))]) hA [2, 3, 4, 5, 6, 7] [0, 1] rfl rfl (by decide) (by decide) (fun H locs ls hP hD hl => va_runVN (As := [.int (nI i), .int t, .int k]) (rest := []) F (ct_A_holds l D cA a0 a1 a2 a3 a4 a5 X n hA0 i (by omega) t k H.size) ⟨va_cnB 3 F.2.2.2.2 (gd k_299) rfl rfl rfl (hN _ n_296).1 (F.2.2.2.2 _ (wm k_2)) (by decide +kernel) ⟨by decide, by decide⟩, F.2.2.2.2 _ (wm k_298), F.2.2.2.2 _ (wm ks_10)⟩ (pre_V rfl hK hN hP hD [2, 3, 4, 5, 6, 7] rfl (by decide) 2 rfl rfl) rfl rfl hl.1 rfl (lv_room (Nat.le_of_ble_eq_true rfl)) d_O_gather_22 ⟨by decide, by decide⟩) (fun r22 u22 hw22 => ?_)
        subst hw22
        refine j_ws (ws' := [(o0, .inr (2, [.ref o1, .int (nI ((ordTo X n t k i).length))])), (o1, .inl (cA, 80, .inl g)), (a0, .inr (0, [.ref a1, .ref a2, .ref a3, .ref a4, .ref a5, .int (nI n)])), (a1, .inl (cA, 80, .inl (X 0))), (a2, .inl (cA, 80, .inl (X 1))), (a3, .inl (cA, 80, .inl (X 2))), (a4, .inl (cA, 80, .inl (X 3))), (a5, .inl (cA, 80, .inl (X 4)))]) [0, 1, 2, 3, 4, 5, 6, 7] (by decide) rfl ?_
        refine j_if_eq (tgt := 35) F d_O_gather_25 (by decide) (fun c_25 => ?_) (fun c_25 => ?_)
        · have ho : ordTo X n t k (i + 1) = ordTo X n t k i := ordTo_f (bI_0 c_25)
          rw [← ho] at hg ⊢
          refine j_iinc (v := nI (i + 1)) (lv' := [(4, .int (nI (i + 1))), (0, .ref o0), (1, .ref a0), (2, .int t), (3, .int k)]) F d_O_gather_35 4 rfl (jn_inc i) (by decide) rfl ?_
          refine j_goto (tgt := 8) F d_O_gather_38 (by decide) ?_
          refine j_lv (lv' := [(0, .ref o0), (1, .ref a0), (2, .int t), (3, .int k), (4, .int (nI (i + 1)))]) [1, 2, 3, 4, 0] rfl ?_
          exact ih8 (i + 1) g (by omega) (by omega) hg
        · refine j_aloadn F d_O_gather_28 0 rfl rfl ?_
          refine j_aloadn F d_O_gather_29 1 rfl rfl ?_
          refine j_iload F d_O_gather_30 4 rfl ?_
          refine j_gov (wc := [(o0, .inr (2, [.ref o1, .int (nI ((ordTo X n t k i).length))])), (o1, .inl (cA, 80, .inl g)), (a0, .inr (0, [.ref a1, .ref a2, .ref a3, .ref a4, .ref a5, .int (nI n)])), (a1, .inl (cA, 80, .inl (X 0))), (a2, .inl (cA, 80, .inl (X 1))), (a3, .inl (cA, 80, .inl (X 2))), (a4, .inl (cA, 80, .inl (X 3))), (a5, .inl (cA, 80, .inl (X 4)))]) (wr := []) hA [0, 1, 2, 3, 4, 5, 6, 7] [] rfl rfl (by decide) (by decide) (fun H locs ls hP hD hl => va_runV (As := [.ref a0, .int (nI i)]) (rest := []) F (ct_O_insert l D cA o0 o1 g (ordTo X n t k i) a0 a1 a2 a3 a4 a5 X n (by omega) hg (by have := ordTo_len X n t k i; omega) (fun j hj => by have := ordTo_lt hj; omega) i (by omega) H.size) ⟨callB_of 2 F.2.2.2.2 (gd k_303) rfl rfl rfl (F.2.2.2.2 _ (wm k_3)) (F.2.2.2.2 _ (wm k_300)) (by decide +kernel) ⟨by decide, by decide⟩, F.2.2.2.2 _ (wm k_302), F.2.2.2.2 _ (wm ks_11)⟩ (pre_V rfl hK hN hP hD [0, 1, 2, 3, 4, 5, 6, 7] rfl (by decide) 0 rfl rfl) rfl rfl hl.1 rfl (lv_room (Nat.le_of_ble_eq_true rfl)) d_O_gather_32 ⟨by decide, by decide⟩) (fun u32 hw32 => ?_)
          refine j_ws (ws' := [(o0, .inr (2, [.ref o1, .int (nI ((ordTo X n t k i).length + 1))])), (o1, .inl (cA, 80, .inl u32)), (a0, .inr (0, [.ref a1, .ref a2, .ref a3, .ref a4, .ref a5, .int (nI n)])), (a1, .inl (cA, 80, .inl (X 0))), (a2, .inl (cA, 80, .inl (X 1))), (a3, .inl (cA, 80, .inl (X 2))), (a4, .inl (cA, 80, .inl (X 3))), (a5, .inl (cA, 80, .inl (X 4)))]) [0, 1, 2, 3, 4, 5, 6, 7] (by decide) rfl ?_
          have ho : ordTo X n t k (i + 1) = ins X (ordTo X n t k i) i := ordTo_t (bI_1 c_25)
          have hl1 : (ordTo X n t k i).length + 1 = (ordTo X n t k (i + 1)).length := by rw [ho, ins_len]
          rw [hl1]
          rw [← ho] at hw32
          refine j_iinc (v := nI (i + 1)) (lv' := [(4, .int (nI (i + 1))), (0, .ref o0), (1, .ref a0), (2, .int t), (3, .int k)]) F d_O_gather_35 4 rfl (jn_inc i) (by decide) rfl ?_
          refine j_goto (tgt := 8) F d_O_gather_38 (by decide) ?_
          refine j_lv (lv' := [(0, .ref o0), (1, .ref a0), (2, .int t), (3, .int k), (4, .int (nI (i + 1)))]) [1, 2, 3, 4, 0] rfl ?_
          exact ih8 (i + 1) u32 (by omega) (by omega) hw32
  refine j_lv (lv' := [(0, .ref o0), (1, .ref a0), (2, .int t), (3, .int k), (4, .int (nI 0))]) [1, 2, 3, 4, 0] rfl ?_
  exact loop8 (n + 1) 0 f (by omega) (by omega) (fun j hj => absurd hj (Nat.not_lt_zero _))

def rm_Ar_fill : Room := { frames := 0, cells := 0, slots := 0, locals := 0 }
set_option maxHeartbeats 4000000 in
set_option maxRecDepth 100000 in
theorem ct_Ar_fill (l : Launch) (D : va_G) (cA : ClassId) (q n : Nat) (hn : n < 1000) (f : Nat → Int32) (v : Int32) : Cv (S := Unit) l y_Ar_fill (Cond.code y_Ar_fill c_Ar_fill 4 none :: WD) rm_Ar_fill D vwCl [(cA, .int)] nws [.ref q, .int v] [(q, .inl (cA, n, .inl f))] 0 0 (fun _ => True) (fun _ => [(q, .inl (cA, n, .inl (fun _ => v)))]) := by
  refine Cv.of (cc := c_Ar_fill) (nL := 4) (lv := [(0, .ref q), (1, .int v)]) (by decide) rfl (Nat.le_of_ble_eq_true rfl) rfl ?_
  intro p e s m args below meth cd A Q F hK hN hA hinit ret
  refine j_iconst (v := nI 0) F d_Ar_fill_0 (by decide) ?_
  refine j_istoren (lv' := [(2, .int (nI 0)), (0, .ref q), (1, .int v)]) F d_Ar_fill_1 rfl (by decide) rfl ?_
  refine j_aloadn F d_Ar_fill_2 1 rfl rfl ?_
  refine j_alen F hK 0 0 rfl rfl d_Ar_fill_3 ?_
  refine j_istoren (lv' := [(3, .int (nI n)), (2, .int (nI 0)), (0, .ref q), (1, .int v)]) F d_Ar_fill_4 rfl (by decide) rfl ?_
  have loop5 : ∀ (fuel : Nat) (i : Nat) (g : Nat → Int32) (hfuel5 : n - i < fuel) (hi : i ≤ n) (hg : ∀ j, j < i → g j = v), J p l e rm_Ar_fill s m args below meth cd D vwCl A s.heap 4 0 0 Q [(q, .inl (cA, n, .inl g))] [(0, .ref q), (1, .int v), (2, .int (nI i)), (3, .int (nI n))] 5 [] := by
    intro fuel
    induction fuel with
    | zero => intro i g hfuel; exact absurd hfuel (Nat.not_lt_zero _)
    | succ fuel ih5 =>
      intro i g hfuel5 hi hg
      refine j_iloadn F d_Ar_fill_5 2 rfl rfl ?_
      refine j_iloadn F d_Ar_fill_6 3 rfl rfl ?_
      refine j_ic_ge (tgt := 20) F d_Ar_fill_7 (by decide) (fun c_7 => ?_) (fun c_7 => ?_)
      · have c_7 : n ≤ i := (nI_leI (by omega) (by omega)).mp c_7
        refine j_ext (ws' := [(q, .inl (cA, n, .inl (fun _ => v)))]) 0 (g := fun _ => v) rfl (fun j hj => hg j (by omega)) rfl ?_
        exact ret _ _ _ _ _ () d_Ar_fill_20 (by decide) (by decide) rfl trivial
      · have c_7 : ¬ n ≤ i := fun h => c_7 ((nI_leI (by omega) (by omega)).mpr h)
        refine j_aloadn F d_Ar_fill_10 0 rfl rfl ?_
        refine j_iloadn F d_Ar_fill_11 2 rfl rfl ?_
        refine j_iloadn F d_Ar_fill_12 1 rfl rfl ?_
        refine j_iast (ws' := [(q, .inl (cA, n, .inl (upd g i v)))]) F hK 0 0 rfl rfl (by omega) (by omega) d_Ar_fill_13 rfl ?_
        refine j_iinc (v := nI (i + 1)) (lv' := [(2, .int (nI (i + 1))), (0, .ref q), (1, .int v), (3, .int (nI n))]) F d_Ar_fill_14 2 rfl (jn_inc i) (by decide) rfl ?_
        refine j_goto (tgt := 5) F d_Ar_fill_17 (by decide) ?_
        refine j_lv (lv' := [(0, .ref q), (1, .int v), (2, .int (nI (i + 1))), (3, .int (nI n))]) [1, 2, 0, 3] rfl ?_
        exact ih5 (i + 1) (upd g i v) (by omega) (by omega) (fun j hj => by
          by_cases e1 : j = i
          · rw [e1, upd_eq]
          · rw [upd_ne e1]; exact hg j (by omega))
  refine j_lv (lv' := [(0, .ref q), (1, .int v), (2, .int (nI 0)), (3, .int (nI n))]) [2, 3, 1, 0] rfl ?_
  exact loop5 (n + 1) 0 f (by omega) (by omega) (fun j hj => absurd hj (Nat.not_lt_zero _))
