def rm_X_distance : Room := { frames := 1, cells := 0, slots := 0, locals := 24 }
set_option maxHeartbeats 4000000 in
set_option maxRecDepth 100000 in
theorem ct_X_distance (l : Launch) (D : va_G) (cA : ClassId) (f t : Nat) (hf : f < 100) (ht : t < 100) : Ci (S := Unit) l y_X_distance (Cond.code y_X_distance c_X_distance 2 (some .int) :: WD) rm_X_distance D vwCl [(cA, .int)] nws [.int (nI f), .int (nI t)] [] 0 0 (fun r _ => r = nI (dst f t)) (fun _ => []) := by
  refine Ci.of (cc := c_X_distance) (nL := 2) (lv := [(0, .int (nI f)), (1, .int (nI t))]) (by decide) rfl (Nat.le_of_ble_eq_true rfl) rfl ?_
  intro p e s m args below meth cd A Q F hK hN hA ret
  refine j_iloadn F d_X_distance_0 0 rfl rfl ?_
  refine j_bipush (v := nI 10) F d_X_distance_1 (by decide) ?_
  refine j_idiv (v := nI (f / 10)) F d_X_distance_3 (nI_ne0 (by omega) (by omega)) (pk_div (by omega) (by omega) (by omega)) ?_
  refine j_iloadn F d_X_distance_4 1 rfl rfl ?_
  refine j_bipush (v := nI 10) F d_X_distance_5 (by decide) ?_
  refine j_idiv (v := nI (t / 10)) F d_X_distance_7 (nI_ne0 (by omega) (by omega)) (pk_div (by omega) (by omega) (by omega)) ?_
  refine j_isub (v := nI (f / 10) - nI (t / 10)) F d_X_distance_8 rfl ?_
  refine j_mabs (v := nI (adf (f / 10) (t / 10))) F (wm k_392) (wm k_393) (wm k_13) (wm k_394) (by decide) (Nat.le_of_ble_eq_true rfl) (by decide) (by decide) d_X_distance_9 (jn_abs (by omega) (by omega)) ?_
  refine j_iloadn F d_X_distance_12 0 rfl rfl ?_
  refine j_bipush (v := nI 10) F d_X_distance_13 (by decide) ?_
  refine j_irem (v := nI (f % 10)) F d_X_distance_15 (nI_ne0 (by omega) (by omega)) (pk_rem (by omega) (by omega) (by omega)) ?_
  refine j_iloadn F d_X_distance_16 1 rfl rfl ?_
  refine j_bipush (v := nI 10) F d_X_distance_17 (by decide) ?_
  refine j_irem (v := nI (t % 10)) F d_X_distance_19 (nI_ne0 (by omega) (by omega)) (pk_rem (by omega) (by omega) (by omega)) ?_
  refine j_isub (v := nI (f % 10) - nI (t % 10)) F d_X_distance_20 rfl ?_
  refine j_mabs (v := nI (adf (f % 10) (t % 10))) F (wm k_392) (wm k_393) (wm k_13) (wm k_394) (by decide) (Nat.le_of_ble_eq_true rfl) (by decide) (by decide) d_X_distance_21 (jn_abs (by omega) (by omega)) ?_
  refine j_iadd (v := nI ((adf (f / 10) (t / 10)) + (adf (f % 10) (t % 10)))) F d_X_distance_24 (nI_add _ _) ?_
  exact ret _ _ _ _ _ _ () d_X_distance_25 rfl (by decide) (by decide) rfl rfl

theorem bc_fin : ∀ t, t < 64 → ((((((((nI t) - ((((nI t).toUInt32 >>> ((nI 1).toUInt32 &&& Int32.toUInt32 31)).toInt32) &&& 1431655765)) &&& 858993459) + (((((nI t) - ((((nI t).toUInt32 >>> ((nI 1).toUInt32 &&& Int32.toUInt32 31)).toInt32) &&& 1431655765)).toUInt32 >>> ((nI 2).toUInt32 &&& Int32.toUInt32 31)).toInt32) &&& 858993459)) + ((((((nI t) - ((((nI t).toUInt32 >>> ((nI 1).toUInt32 &&& Int32.toUInt32 31)).toInt32) &&& 1431655765)) &&& 858993459) + (((((nI t) - ((((nI t).toUInt32 >>> ((nI 1).toUInt32 &&& Int32.toUInt32 31)).toInt32) &&& 1431655765)).toUInt32 >>> ((nI 2).toUInt32 &&& Int32.toUInt32 31)).toInt32) &&& 858993459)).toUInt32 >>> ((nI 4).toUInt32 &&& Int32.toUInt32 31)).toInt32)) &&& 252645135) + ((((((((nI t) - ((((nI t).toUInt32 >>> ((nI 1).toUInt32 &&& Int32.toUInt32 31)).toInt32) &&& 1431655765)) &&& 858993459) + (((((nI t) - ((((nI t).toUInt32 >>> ((nI 1).toUInt32 &&& Int32.toUInt32 31)).toInt32) &&& 1431655765)).toUInt32 >>> ((nI 2).toUInt32 &&& Int32.toUInt32 31)).toInt32) &&& 858993459)) + ((((((nI t) - ((((nI t).toUInt32 >>> ((nI 1).toUInt32 &&& Int32.toUInt32 31)).toInt32) &&& 1431655765)) &&& 858993459) + (((((nI t) - ((((nI t).toUInt32 >>> ((nI 1).toUInt32 &&& Int32.toUInt32 31)).toInt32) &&& 1431655765)).toUInt32 >>> ((nI 2).toUInt32 &&& Int32.toUInt32 31)).toInt32) &&& 858993459)).toUInt32 >>> ((nI 4).toUInt32 &&& Int32.toUInt32 31)).toInt32)) &&& 252645135).toUInt32 >>> ((nI 8).toUInt32 &&& Int32.toUInt32 31)).toInt32)) + (((((((((nI t) - ((((nI t).toUInt32 >>> ((nI 1).toUInt32 &&& Int32.toUInt32 31)).toInt32) &&& 1431655765)) &&& 858993459) + (((((nI t) - ((((nI t).toUInt32 >>> ((nI 1).toUInt32 &&& Int32.toUInt32 31)).toInt32) &&& 1431655765)).toUInt32 >>> ((nI 2).toUInt32 &&& Int32.toUInt32 31)).toInt32) &&& 858993459)) + ((((((nI t) - ((((nI t).toUInt32 >>> ((nI 1).toUInt32 &&& Int32.toUInt32 31)).toInt32) &&& 1431655765)) &&& 858993459) + (((((nI t) - ((((nI t).toUInt32 >>> ((nI 1).toUInt32 &&& Int32.toUInt32 31)).toInt32) &&& 1431655765)).toUInt32 >>> ((nI 2).toUInt32 &&& Int32.toUInt32 31)).toInt32) &&& 858993459)).toUInt32 >>> ((nI 4).toUInt32 &&& Int32.toUInt32 31)).toInt32)) &&& 252645135) + ((((((((nI t) - ((((nI t).toUInt32 >>> ((nI 1).toUInt32 &&& Int32.toUInt32 31)).toInt32) &&& 1431655765)) &&& 858993459) + (((((nI t) - ((((nI t).toUInt32 >>> ((nI 1).toUInt32 &&& Int32.toUInt32 31)).toInt32) &&& 1431655765)).toUInt32 >>> ((nI 2).toUInt32 &&& Int32.toUInt32 31)).toInt32) &&& 858993459)) + ((((((nI t) - ((((nI t).toUInt32 >>> ((nI 1).toUInt32 &&& Int32.toUInt32 31)).toInt32) &&& 1431655765)) &&& 858993459) + (((((nI t) - ((((nI t).toUInt32 >>> ((nI 1).toUInt32 &&& Int32.toUInt32 31)).toInt32) &&& 1431655765)).toUInt32 >>> ((nI 2).toUInt32 &&& Int32.toUInt32 31)).toInt32) &&& 858993459)).toUInt32 >>> ((nI 4).toUInt32 &&& Int32.toUInt32 31)).toInt32)) &&& 252645135).toUInt32 >>> ((nI 8).toUInt32 &&& Int32.toUInt32 31)).toInt32)).toUInt32 >>> ((nI 16).toUInt32 &&& Int32.toUInt32 31)).toInt32)) &&& (nI 63) = nI (pop t) := by decide +kernel

def rm_In_bitCount : Room := { frames := 0, cells := 0, slots := 0, locals := 0 }
set_option maxHeartbeats 4000000 in
set_option maxRecDepth 100000 in
theorem ct_In_bitCount (l : Launch) (D : va_G) (cA : ClassId) (t : Nat) (ht : t < 64) : Ci (S := Unit) l y_In_bitCount (Cond.code y_In_bitCount c_In_bitCount 1 (some .int) :: WD) rm_In_bitCount D vwCl [(cA, .int)] nws [.int (nI t)] [] 0 0 (fun r _ => r = nI (pop t)) (fun _ => []) := by
  refine Ci.of (cc := c_In_bitCount) (nL := 1) (lv := [(0, .int (nI t))]) (by decide) rfl (Nat.le_of_ble_eq_true rfl) rfl ?_
  intro p e s m args below meth cd A Q F hK hN hA ret
  refine j_iloadn F d_In_bitCount_0 0 rfl rfl ?_
  refine j_iloadn F d_In_bitCount_1 0 rfl rfl ?_
  refine j_iconst (v := nI 1) F d_In_bitCount_2 (by decide) ?_
  refine j_iushr (v := ((nI t).toUInt32 >>> ((nI 1).toUInt32 &&& Int32.toUInt32 31)).toInt32) F d_In_bitCount_3 rfl ?_
  refine j_ldcw (v := 1431655765) F (wm k_417) d_In_bitCount_4 ?_
  refine j_iand (v := (((nI t).toUInt32 >>> ((nI 1).toUInt32 &&& Int32.toUInt32 31)).toInt32) &&& 1431655765) F d_In_bitCount_7 rfl ?_
  refine j_isub (v := (nI t) - ((((nI t).toUInt32 >>> ((nI 1).toUInt32 &&& Int32.toUInt32 31)).toInt32) &&& 1431655765)) F d_In_bitCount_8 rfl ?_
  refine j_istoren (lv' := [(0, .int ((nI t) - ((((nI t).toUInt32 >>> ((nI 1).toUInt32 &&& Int32.toUInt32 31)).toInt32) &&& 1431655765)))]) F d_In_bitCount_9 rfl (by decide) rfl ?_
  refine j_iloadn F d_In_bitCount_10 0 rfl rfl ?_
  refine j_ldcw (v := 858993459) F (wm k_418) d_In_bitCount_11 ?_
  refine j_iand (v := ((nI t) - ((((nI t).toUInt32 >>> ((nI 1).toUInt32 &&& Int32.toUInt32 31)).toInt32) &&& 1431655765)) &&& 858993459) F d_In_bitCount_14 rfl ?_
  refine j_iloadn F d_In_bitCount_15 0 rfl rfl ?_
  refine j_iconst (v := nI 2) F d_In_bitCount_16 (by decide) ?_
  refine j_iushr (v := (((nI t) - ((((nI t).toUInt32 >>> ((nI 1).toUInt32 &&& Int32.toUInt32 31)).toInt32) &&& 1431655765)).toUInt32 >>> ((nI 2).toUInt32 &&& Int32.toUInt32 31)).toInt32) F d_In_bitCount_17 rfl ?_
  refine j_ldcw (v := 858993459) F (wm k_418) d_In_bitCount_18 ?_
  refine j_iand (v := ((((nI t) - ((((nI t).toUInt32 >>> ((nI 1).toUInt32 &&& Int32.toUInt32 31)).toInt32) &&& 1431655765)).toUInt32 >>> ((nI 2).toUInt32 &&& Int32.toUInt32 31)).toInt32) &&& 858993459) F d_In_bitCount_21 rfl ?_
  refine j_iadd (v := (((nI t) - ((((nI t).toUInt32 >>> ((nI 1).toUInt32 &&& Int32.toUInt32 31)).toInt32) &&& 1431655765)) &&& 858993459) + (((((nI t) - ((((nI t).toUInt32 >>> ((nI 1).toUInt32 &&& Int32.toUInt32 31)).toInt32) &&& 1431655765)).toUInt32 >>> ((nI 2).toUInt32 &&& Int32.toUInt32 31)).toInt32) &&& 858993459)) F d_In_bitCount_22 rfl ?_
  refine j_istoren (lv' := [(0, .int ((((nI t) - ((((nI t).toUInt32 >>> ((nI 1).toUInt32 &&& Int32.toUInt32 31)).toInt32) &&& 1431655765)) &&& 858993459) + (((((nI t) - ((((nI t).toUInt32 >>> ((nI 1).toUInt32 &&& Int32.toUInt32 31)).toInt32) &&& 1431655765)).toUInt32 >>> ((nI 2).toUInt32 &&& Int32.toUInt32 31)).toInt32) &&& 858993459)))]) F d_In_bitCount_23 rfl (by decide) rfl ?_
  refine j_iloadn F d_In_bitCount_24 0 rfl rfl ?_
  refine j_iloadn F d_In_bitCount_25 0 rfl rfl ?_
  refine j_iconst (v := nI 4) F d_In_bitCount_26 (by decide) ?_
  refine j_iushr (v := (((((nI t) - ((((nI t).toUInt32 >>> ((nI 1).toUInt32 &&& Int32.toUInt32 31)).toInt32) &&& 1431655765)) &&& 858993459) + (((((nI t) - ((((nI t).toUInt32 >>> ((nI 1).toUInt32 &&& Int32.toUInt32 31)).toInt32) &&& 1431655765)).toUInt32 >>> ((nI 2).toUInt32 &&& Int32.toUInt32 31)).toInt32) &&& 858993459)).toUInt32 >>> ((nI 4).toUInt32 &&& Int32.toUInt32 31)).toInt32) F d_In_bitCount_27 rfl ?_
  refine j_iadd (v := ((((nI t) - ((((nI t).toUInt32 >>> ((nI 1).toUInt32 &&& Int32.toUInt32 31)).toInt32) &&& 1431655765)) &&& 858993459) + (((((nI t) - ((((nI t).toUInt32 >>> ((nI 1).toUInt32 &&& Int32.toUInt32 31)).toInt32) &&& 1431655765)).toUInt32 >>> ((nI 2).toUInt32 &&& Int32.toUInt32 31)).toInt32) &&& 858993459)) + ((((((nI t) - ((((nI t).toUInt32 >>> ((nI 1).toUInt32 &&& Int32.toUInt32 31)).toInt32) &&& 1431655765)) &&& 858993459) + (((((nI t) - ((((nI t).toUInt32 >>> ((nI 1).toUInt32 &&& Int32.toUInt32 31)).toInt32) &&& 1431655765)).toUInt32 >>> ((nI 2).toUInt32 &&& Int32.toUInt32 31)).toInt32) &&& 858993459)).toUInt32 >>> ((nI 4).toUInt32 &&& Int32.toUInt32 31)).toInt32)) F d_In_bitCount_28 rfl ?_
  refine j_ldcw (v := 252645135) F (wm k_419) d_In_bitCount_29 ?_
  refine j_iand (v := (((((nI t) - ((((nI t).toUInt32 >>> ((nI 1).toUInt32 &&& Int32.toUInt32 31)).toInt32) &&& 1431655765)) &&& 858993459) + (((((nI t) - ((((nI t).toUInt32 >>> ((nI 1).toUInt32 &&& Int32.toUInt32 31)).toInt32) &&& 1431655765)).toUInt32 >>> ((nI 2).toUInt32 &&& Int32.toUInt32 31)).toInt32) &&& 858993459)) + ((((((nI t) - ((((nI t).toUInt32 >>> ((nI 1).toUInt32 &&& Int32.toUInt32 31)).toInt32) &&& 1431655765)) &&& 858993459) + (((((nI t) - ((((nI t).toUInt32 >>> ((nI 1).toUInt32 &&& Int32.toUInt32 31)).toInt32) &&& 1431655765)).toUInt32 >>> ((nI 2).toUInt32 &&& Int32.toUInt32 31)).toInt32) &&& 858993459)).toUInt32 >>> ((nI 4).toUInt32 &&& Int32.toUInt32 31)).toInt32)) &&& 252645135) F d_In_bitCount_32 rfl ?_
  refine j_istoren (lv' := [(0, .int ((((((nI t) - ((((nI t).toUInt32 >>> ((nI 1).toUInt32 &&& Int32.toUInt32 31)).toInt32) &&& 1431655765)) &&& 858993459) + (((((nI t) - ((((nI t).toUInt32 >>> ((nI 1).toUInt32 &&& Int32.toUInt32 31)).toInt32) &&& 1431655765)).toUInt32 >>> ((nI 2).toUInt32 &&& Int32.toUInt32 31)).toInt32) &&& 858993459)) + ((((((nI t) - ((((nI t).toUInt32 >>> ((nI 1).toUInt32 &&& Int32.toUInt32 31)).toInt32) &&& 1431655765)) &&& 858993459) + (((((nI t) - ((((nI t).toUInt32 >>> ((nI 1).toUInt32 &&& Int32.toUInt32 31)).toInt32) &&& 1431655765)).toUInt32 >>> ((nI 2).toUInt32 &&& Int32.toUInt32 31)).toInt32) &&& 858993459)).toUInt32 >>> ((nI 4).toUInt32 &&& Int32.toUInt32 31)).toInt32)) &&& 252645135))]) F d_In_bitCount_33 rfl (by decide) rfl ?_
  refine j_iloadn F d_In_bitCount_34 0 rfl rfl ?_
  refine j_iloadn F d_In_bitCount_35 0 rfl rfl ?_
  refine j_bipush (v := nI 8) F d_In_bitCount_36 (by decide) ?_
  refine j_iushr (v := (((((((nI t) - ((((nI t).toUInt32 >>> ((nI 1).toUInt32 &&& Int32.toUInt32 31)).toInt32) &&& 1431655765)) &&& 858993459) + (((((nI t) - ((((nI t).toUInt32 >>> ((nI 1).toUInt32 &&& Int32.toUInt32 31)).toInt32) &&& 1431655765)).toUInt32 >>> ((nI 2).toUInt32 &&& Int32.toUInt32 31)).toInt32) &&& 858993459)) + ((((((nI t) - ((((nI t).toUInt32 >>> ((nI 1).toUInt32 &&& Int32.toUInt32 31)).toInt32) &&& 1431655765)) &&& 858993459) + (((((nI t) - ((((nI t).toUInt32 >>> ((nI 1).toUInt32 &&& Int32.toUInt32 31)).toInt32) &&& 1431655765)).toUInt32 >>> ((nI 2).toUInt32 &&& Int32.toUInt32 31)).toInt32) &&& 858993459)).toUInt32 >>> ((nI 4).toUInt32 &&& Int32.toUInt32 31)).toInt32)) &&& 252645135).toUInt32 >>> ((nI 8).toUInt32 &&& Int32.toUInt32 31)).toInt32) F d_In_bitCount_38 rfl ?_
  refine j_iadd (v := ((((((nI t) - ((((nI t).toUInt32 >>> ((nI 1).toUInt32 &&& Int32.toUInt32 31)).toInt32) &&& 1431655765)) &&& 858993459) + (((((nI t) - ((((nI t).toUInt32 >>> ((nI 1).toUInt32 &&& Int32.toUInt32 31)).toInt32) &&& 1431655765)).toUInt32 >>> ((nI 2).toUInt32 &&& Int32.toUInt32 31)).toInt32) &&& 858993459)) + ((((((nI t) - ((((nI t).toUInt32 >>> ((nI 1).toUInt32 &&& Int32.toUInt32 31)).toInt32) &&& 1431655765)) &&& 858993459) + (((((nI t) - ((((nI t).toUInt32 >>> ((nI 1).toUInt32 &&& Int32.toUInt32 31)).toInt32) &&& 1431655765)).toUInt32 >>> ((nI 2).toUInt32 &&& Int32.toUInt32 31)).toInt32) &&& 858993459)).toUInt32 >>> ((nI 4).toUInt32 &&& Int32.toUInt32 31)).toInt32)) &&& 252645135) + ((((((((nI t) - ((((nI t).toUInt32 >>> ((nI 1).toUInt32 &&& Int32.toUInt32 31)).toInt32) &&& 1431655765)) &&& 858993459) + (((((nI t) - ((((nI t).toUInt32 >>> ((nI 1).toUInt32 &&& Int32.toUInt32 31)).toInt32) &&& 1431655765)).toUInt32 >>> ((nI 2).toUInt32 &&& Int32.toUInt32 31)).toInt32) &&& 858993459)) + ((((((nI t) - ((((nI t).toUInt32 >>> ((nI 1).toUInt32 &&& Int32.toUInt32 31)).toInt32) &&& 1431655765)) &&& 858993459) + (((((nI t) - ((((nI t).toUInt32 >>> ((nI 1).toUInt32 &&& Int32.toUInt32 31)).toInt32) &&& 1431655765)).toUInt32 >>> ((nI 2).toUInt32 &&& Int32.toUInt32 31)).toInt32) &&& 858993459)).toUInt32 >>> ((nI 4).toUInt32 &&& Int32.toUInt32 31)).toInt32)) &&& 252645135).toUInt32 >>> ((nI 8).toUInt32 &&& Int32.toUInt32 31)).toInt32)) F d_In_bitCount_39 rfl ?_
  refine j_istoren (lv' := [(0, .int (((((((nI t) - ((((nI t).toUInt32 >>> ((nI 1).toUInt32 &&& Int32.toUInt32 31)).toInt32) &&& 1431655765)) &&& 858993459) + (((((nI t) - ((((nI t).toUInt32 >>> ((nI 1).toUInt32 &&& Int32.toUInt32 31)).toInt32) &&& 1431655765)).toUInt32 >>> ((nI 2).toUInt32 &&& Int32.toUInt32 31)).toInt32) &&& 858993459)) + ((((((nI t) - ((((nI t).toUInt32 >>> ((nI 1).toUInt32 &&& Int32.toUInt32 31)).toInt32) &&& 1431655765)) &&& 858993459) + (((((nI t) - ((((nI t).toUInt32 >>> ((nI 1).toUInt32 &&& Int32.toUInt32 31)).toInt32) &&& 1431655765)).toUInt32 >>> ((nI 2).toUInt32 &&& Int32.toUInt32 31)).toInt32) &&& 858993459)).toUInt32 >>> ((nI 4).toUInt32 &&& Int32.toUInt32 31)).toInt32)) &&& 252645135) + ((((((((nI t) - ((((nI t).toUInt32 >>> ((nI 1).toUInt32 &&& Int32.toUInt32 31)).toInt32) &&& 1431655765)) &&& 858993459) + (((((nI t) - ((((nI t).toUInt32 >>> ((nI 1).toUInt32 &&& Int32.toUInt32 31)).toInt32) &&& 1431655765)).toUInt32 >>> ((nI 2).toUInt32 &&& Int32.toUInt32 31)).toInt32) &&& 858993459)) + ((((((nI t) - ((((nI t).toUInt32 >>> ((nI 1).toUInt32 &&& Int32.toUInt32 31)).toInt32) &&& 1431655765)) &&& 858993459) + (((((nI t) - ((((nI t).toUInt32 >>> ((nI 1).toUInt32 &&& Int32.toUInt32 31)).toInt32) &&& 1431655765)).toUInt32 >>> ((nI 2).toUInt32 &&& Int32.toUInt32 31)).toInt32) &&& 858993459)).toUInt32 >>> ((nI 4).toUInt32 &&& Int32.toUInt32 31)).toInt32)) &&& 252645135).toUInt32 >>> ((nI 8).toUInt32 &&& Int32.toUInt32 31)).toInt32)))]) F d_In_bitCount_40 rfl (by decide) rfl ?_
  refine j_iloadn F d_In_bitCount_41 0 rfl rfl ?_
  refine j_iloadn F d_In_bitCount_42 0 rfl rfl ?_
  refine j_bipush (v := nI 16) F d_In_bitCount_43 (by decide) ?_
  refine j_iushr (v := ((((((((nI t) - ((((nI t).toUInt32 >>> ((nI 1).toUInt32 &&& Int32.toUInt32 31)).toInt32) &&& 1431655765)) &&& 858993459) + (((((nI t) - ((((nI t).toUInt32 >>> ((nI 1).toUInt32 &&& Int32.toUInt32 31)).toInt32) &&& 1431655765)).toUInt32 >>> ((nI 2).toUInt32 &&& Int32.toUInt32 31)).toInt32) &&& 858993459)) + ((((((nI t) - ((((nI t).toUInt32 >>> ((nI 1).toUInt32 &&& Int32.toUInt32 31)).toInt32) &&& 1431655765)) &&& 858993459) + (((((nI t) - ((((nI t).toUInt32 >>> ((nI 1).toUInt32 &&& Int32.toUInt32 31)).toInt32) &&& 1431655765)).toUInt32 >>> ((nI 2).toUInt32 &&& Int32.toUInt32 31)).toInt32) &&& 858993459)).toUInt32 >>> ((nI 4).toUInt32 &&& Int32.toUInt32 31)).toInt32)) &&& 252645135) + ((((((((nI t) - ((((nI t).toUInt32 >>> ((nI 1).toUInt32 &&& Int32.toUInt32 31)).toInt32) &&& 1431655765)) &&& 858993459) + (((((nI t) - ((((nI t).toUInt32 >>> ((nI 1).toUInt32 &&& Int32.toUInt32 31)).toInt32) &&& 1431655765)).toUInt32 >>> ((nI 2).toUInt32 &&& Int32.toUInt32 31)).toInt32) &&& 858993459)) + ((((((nI t) - ((((nI t).toUInt32 >>> ((nI 1).toUInt32 &&& Int32.toUInt32 31)).toInt32) &&& 1431655765)) &&& 858993459) + (((((nI t) - ((((nI t).toUInt32 >>> ((nI 1).toUInt32 &&& Int32.toUInt32 31)).toInt32) &&& 1431655765)).toUInt32 >>> ((nI 2).toUInt32 &&& Int32.toUInt32 31)).toInt32) &&& 858993459)).toUInt32 >>> ((nI 4).toUInt32 &&& Int32.toUInt32 31)).toInt32)) &&& 252645135).toUInt32 >>> ((nI 8).toUInt32 &&& Int32.toUInt32 31)).toInt32)).toUInt32 >>> ((nI 16).toUInt32 &&& Int32.toUInt32 31)).toInt32) F d_In_bitCount_45 rfl ?_
  refine j_iadd (v := (((((((nI t) - ((((nI t).toUInt32 >>> ((nI 1).toUInt32 &&& Int32.toUInt32 31)).toInt32) &&& 1431655765)) &&& 858993459) + (((((nI t) - ((((nI t).toUInt32 >>> ((nI 1).toUInt32 &&& Int32.toUInt32 31)).toInt32) &&& 1431655765)).toUInt32 >>> ((nI 2).toUInt32 &&& Int32.toUInt32 31)).toInt32) &&& 858993459)) + ((((((nI t) - ((((nI t).toUInt32 >>> ((nI 1).toUInt32 &&& Int32.toUInt32 31)).toInt32) &&& 1431655765)) &&& 858993459) + (((((nI t) - ((((nI t).toUInt32 >>> ((nI 1).toUInt32 &&& Int32.toUInt32 31)).toInt32) &&& 1431655765)).toUInt32 >>> ((nI 2).toUInt32 &&& Int32.toUInt32 31)).toInt32) &&& 858993459)).toUInt32 >>> ((nI 4).toUInt32 &&& Int32.toUInt32 31)).toInt32)) &&& 252645135) + ((((((((nI t) - ((((nI t).toUInt32 >>> ((nI 1).toUInt32 &&& Int32.toUInt32 31)).toInt32) &&& 1431655765)) &&& 858993459) + (((((nI t) - ((((nI t).toUInt32 >>> ((nI 1).toUInt32 &&& Int32.toUInt32 31)).toInt32) &&& 1431655765)).toUInt32 >>> ((nI 2).toUInt32 &&& Int32.toUInt32 31)).toInt32) &&& 858993459)) + ((((((nI t) - ((((nI t).toUInt32 >>> ((nI 1).toUInt32 &&& Int32.toUInt32 31)).toInt32) &&& 1431655765)) &&& 858993459) + (((((nI t) - ((((nI t).toUInt32 >>> ((nI 1).toUInt32 &&& Int32.toUInt32 31)).toInt32) &&& 1431655765)).toUInt32 >>> ((nI 2).toUInt32 &&& Int32.toUInt32 31)).toInt32) &&& 858993459)).toUInt32 >>> ((nI 4).toUInt32 &&& Int32.toUInt32 31)).toInt32)) &&& 252645135).toUInt32 >>> ((nI 8).toUInt32 &&& Int32.toUInt32 31)).toInt32)) + (((((((((nI t) - ((((nI t).toUInt32 >>> ((nI 1).toUInt32 &&& Int32.toUInt32 31)).toInt32) &&& 1431655765)) &&& 858993459) + (((((nI t) - ((((nI t).toUInt32 >>> ((nI 1).toUInt32 &&& Int32.toUInt32 31)).toInt32) &&& 1431655765)).toUInt32 >>> ((nI 2).toUInt32 &&& Int32.toUInt32 31)).toInt32) &&& 858993459)) + ((((((nI t) - ((((nI t).toUInt32 >>> ((nI 1).toUInt32 &&& Int32.toUInt32 31)).toInt32) &&& 1431655765)) &&& 858993459) + (((((nI t) - ((((nI t).toUInt32 >>> ((nI 1).toUInt32 &&& Int32.toUInt32 31)).toInt32) &&& 1431655765)).toUInt32 >>> ((nI 2).toUInt32 &&& Int32.toUInt32 31)).toInt32) &&& 858993459)).toUInt32 >>> ((nI 4).toUInt32 &&& Int32.toUInt32 31)).toInt32)) &&& 252645135) + ((((((((nI t) - ((((nI t).toUInt32 >>> ((nI 1).toUInt32 &&& Int32.toUInt32 31)).toInt32) &&& 1431655765)) &&& 858993459) + (((((nI t) - ((((nI t).toUInt32 >>> ((nI 1).toUInt32 &&& Int32.toUInt32 31)).toInt32) &&& 1431655765)).toUInt32 >>> ((nI 2).toUInt32 &&& Int32.toUInt32 31)).toInt32) &&& 858993459)) + ((((((nI t) - ((((nI t).toUInt32 >>> ((nI 1).toUInt32 &&& Int32.toUInt32 31)).toInt32) &&& 1431655765)) &&& 858993459) + (((((nI t) - ((((nI t).toUInt32 >>> ((nI 1).toUInt32 &&& Int32.toUInt32 31)).toInt32) &&& 1431655765)).toUInt32 >>> ((nI 2).toUInt32 &&& Int32.toUInt32 31)).toInt32) &&& 858993459)).toUInt32 >>> ((nI 4).toUInt32 &&& Int32.toUInt32 31)).toInt32)) &&& 252645135).toUInt32 >>> ((nI 8).toUInt32 &&& Int32.toUInt32 31)).toInt32)).toUInt32 >>> ((nI 16).toUInt32 &&& Int32.toUInt32 31)).toInt32)) F d_In_bitCount_46 rfl ?_
  refine j_istoren (lv' := [(0, .int ((((((((nI t) - ((((nI t).toUInt32 >>> ((nI 1).toUInt32 &&& Int32.toUInt32 31)).toInt32) &&& 1431655765)) &&& 858993459) + (((((nI t) - ((((nI t).toUInt32 >>> ((nI 1).toUInt32 &&& Int32.toUInt32 31)).toInt32) &&& 1431655765)).toUInt32 >>> ((nI 2).toUInt32 &&& Int32.toUInt32 31)).toInt32) &&& 858993459)) + ((((((nI t) - ((((nI t).toUInt32 >>> ((nI 1).toUInt32 &&& Int32.toUInt32 31)).toInt32) &&& 1431655765)) &&& 858993459) + (((((nI t) - ((((nI t).toUInt32 >>> ((nI 1).toUInt32 &&& Int32.toUInt32 31)).toInt32) &&& 1431655765)).toUInt32 >>> ((nI 2).toUInt32 &&& Int32.toUInt32 31)).toInt32) &&& 858993459)).toUInt32 >>> ((nI 4).toUInt32 &&& Int32.toUInt32 31)).toInt32)) &&& 252645135) + ((((((((nI t) - ((((nI t).toUInt32 >>> ((nI 1).toUInt32 &&& Int32.toUInt32 31)).toInt32) &&& 1431655765)) &&& 858993459) + (((((nI t) - ((((nI t).toUInt32 >>> ((nI 1).toUInt32 &&& Int32.toUInt32 31)).toInt32) &&& 1431655765)).toUInt32 >>> ((nI 2).toUInt32 &&& Int32.toUInt32 31)).toInt32) &&& 858993459)) + ((((((nI t) - ((((nI t).toUInt32 >>> ((nI 1).toUInt32 &&& Int32.toUInt32 31)).toInt32) &&& 1431655765)) &&& 858993459) + (((((nI t) - ((((nI t).toUInt32 >>> ((nI 1).toUInt32 &&& Int32.toUInt32 31)).toInt32) &&& 1431655765)).toUInt32 >>> ((nI 2).toUInt32 &&& Int32.toUInt32 31)).toInt32) &&& 858993459)).toUInt32 >>> ((nI 4).toUInt32 &&& Int32.toUInt32 31)).toInt32)) &&& 252645135).toUInt32 >>> ((nI 8).toUInt32 &&& Int32.toUInt32 31)).toInt32)) + (((((((((nI t) - ((((nI t).toUInt32 >>> ((nI 1).toUInt32 &&& Int32.toUInt32 31)).toInt32) &&& 1431655765)) &&& 858993459) + (((((nI t) - ((((nI t).toUInt32 >>> ((nI 1).toUInt32 &&& Int32.toUInt32 31)).toInt32) &&& 1431655765)).toUInt32 >>> ((nI 2).toUInt32 &&& Int32.toUInt32 31)).toInt32) &&& 858993459)) + ((((((nI t) - ((((nI t).toUInt32 >>> ((nI 1).toUInt32 &&& Int32.toUInt32 31)).toInt32) &&& 1431655765)) &&& 858993459) + (((((nI t) - ((((nI t).toUInt32 >>> ((nI 1).toUInt32 &&& Int32.toUInt32 31)).toInt32) &&& 1431655765)).toUInt32 >>> ((nI 2).toUInt32 &&& Int32.toUInt32 31)).toInt32) &&& 858993459)).toUInt32 >>> ((nI 4).toUInt32 &&& Int32.toUInt32 31)).toInt32)) &&& 252645135) + ((((((((nI t) - ((((nI t).toUInt32 >>> ((nI 1).toUInt32 &&& Int32.toUInt32 31)).toInt32) &&& 1431655765)) &&& 858993459) + (((((nI t) - ((((nI t).toUInt32 >>> ((nI 1).toUInt32 &&& Int32.toUInt32 31)).toInt32) &&& 1431655765)).toUInt32 >>> ((nI 2).toUInt32 &&& Int32.toUInt32 31)).toInt32) &&& 858993459)) + ((((((nI t) - ((((nI t).toUInt32 >>> ((nI 1).toUInt32 &&& Int32.toUInt32 31)).toInt32) &&& 1431655765)) &&& 858993459) + (((((nI t) - ((((nI t).toUInt32 >>> ((nI 1).toUInt32 &&& Int32.toUInt32 31)).toInt32) &&& 1431655765)).toUInt32 >>> ((nI 2).toUInt32 &&& Int32.toUInt32 31)).toInt32) &&& 858993459)).toUInt32 >>> ((nI 4).toUInt32 &&& Int32.toUInt32 31)).toInt32)) &&& 252645135).toUInt32 >>> ((nI 8).toUInt32 &&& Int32.toUInt32 31)).toInt32)).toUInt32 >>> ((nI 16).toUInt32 &&& Int32.toUInt32 31)).toInt32)))]) F d_In_bitCount_47 rfl (by decide) rfl ?_
  refine j_iloadn F d_In_bitCount_48 0 rfl rfl ?_
  refine j_bipush (v := nI 63) F d_In_bitCount_49 (by decide) ?_
  refine j_iand (v := ((((((((nI t) - ((((nI t).toUInt32 >>> ((nI 1).toUInt32 &&& Int32.toUInt32 31)).toInt32) &&& 1431655765)) &&& 858993459) + (((((nI t) - ((((nI t).toUInt32 >>> ((nI 1).toUInt32 &&& Int32.toUInt32 31)).toInt32) &&& 1431655765)).toUInt32 >>> ((nI 2).toUInt32 &&& Int32.toUInt32 31)).toInt32) &&& 858993459)) + ((((((nI t) - ((((nI t).toUInt32 >>> ((nI 1).toUInt32 &&& Int32.toUInt32 31)).toInt32) &&& 1431655765)) &&& 858993459) + (((((nI t) - ((((nI t).toUInt32 >>> ((nI 1).toUInt32 &&& Int32.toUInt32 31)).toInt32) &&& 1431655765)).toUInt32 >>> ((nI 2).toUInt32 &&& Int32.toUInt32 31)).toInt32) &&& 858993459)).toUInt32 >>> ((nI 4).toUInt32 &&& Int32.toUInt32 31)).toInt32)) &&& 252645135) + ((((((((nI t) - ((((nI t).toUInt32 >>> ((nI 1).toUInt32 &&& Int32.toUInt32 31)).toInt32) &&& 1431655765)) &&& 858993459) + (((((nI t) - ((((nI t).toUInt32 >>> ((nI 1).toUInt32 &&& Int32.toUInt32 31)).toInt32) &&& 1431655765)).toUInt32 >>> ((nI 2).toUInt32 &&& Int32.toUInt32 31)).toInt32) &&& 858993459)) + ((((((nI t) - ((((nI t).toUInt32 >>> ((nI 1).toUInt32 &&& Int32.toUInt32 31)).toInt32) &&& 1431655765)) &&& 858993459) + (((((nI t) - ((((nI t).toUInt32 >>> ((nI 1).toUInt32 &&& Int32.toUInt32 31)).toInt32) &&& 1431655765)).toUInt32 >>> ((nI 2).toUInt32 &&& Int32.toUInt32 31)).toInt32) &&& 858993459)).toUInt32 >>> ((nI 4).toUInt32 &&& Int32.toUInt32 31)).toInt32)) &&& 252645135).toUInt32 >>> ((nI 8).toUInt32 &&& Int32.toUInt32 31)).toInt32)) + (((((((((nI t) - ((((nI t).toUInt32 >>> ((nI 1).toUInt32 &&& Int32.toUInt32 31)).toInt32) &&& 1431655765)) &&& 858993459) + (((((nI t) - ((((nI t).toUInt32 >>> ((nI 1).toUInt32 &&& Int32.toUInt32 31)).toInt32) &&& 1431655765)).toUInt32 >>> ((nI 2).toUInt32 &&& Int32.toUInt32 31)).toInt32) &&& 858993459)) + ((((((nI t) - ((((nI t).toUInt32 >>> ((nI 1).toUInt32 &&& Int32.toUInt32 31)).toInt32) &&& 1431655765)) &&& 858993459) + (((((nI t) - ((((nI t).toUInt32 >>> ((nI 1).toUInt32 &&& Int32.toUInt32 31)).toInt32) &&& 1431655765)).toUInt32 >>> ((nI 2).toUInt32 &&& Int32.toUInt32 31)).toInt32) &&& 858993459)).toUInt32 >>> ((nI 4).toUInt32 &&& Int32.toUInt32 31)).toInt32)) &&& 252645135) + ((((((((nI t) - ((((nI t).toUInt32 >>> ((nI 1).toUInt32 &&& Int32.toUInt32 31)).toInt32) &&& 1431655765)) &&& 858993459) + (((((nI t) - ((((nI t).toUInt32 >>> ((nI 1).toUInt32 &&& Int32.toUInt32 31)).toInt32) &&& 1431655765)).toUInt32 >>> ((nI 2).toUInt32 &&& Int32.toUInt32 31)).toInt32) &&& 858993459)) + ((((((nI t) - ((((nI t).toUInt32 >>> ((nI 1).toUInt32 &&& Int32.toUInt32 31)).toInt32) &&& 1431655765)) &&& 858993459) + (((((nI t) - ((((nI t).toUInt32 >>> ((nI 1).toUInt32 &&& Int32.toUInt32 31)).toInt32) &&& 1431655765)).toUInt32 >>> ((nI 2).toUInt32 &&& Int32.toUInt32 31)).toInt32) &&& 858993459)).toUInt32 >>> ((nI 4).toUInt32 &&& Int32.toUInt32 31)).toInt32)) &&& 252645135).toUInt32 >>> ((nI 8).toUInt32 &&& Int32.toUInt32 31)).toInt32)).toUInt32 >>> ((nI 16).toUInt32 &&& Int32.toUInt32 31)).toInt32)) &&& (nI 63)) F d_In_bitCount_51 rfl ?_
  exact ret _ _ _ _ _ _ () d_In_bitCount_52 rfl (by decide) (by decide) rfl (bc_fin t ht)

def rm_B_gatherBoxes : Room := { frames := 0, cells := 0, slots := 0, locals := 0 }
set_option maxHeartbeats 4000000 in
set_option maxRecDepth 100000 in
theorem ct_B_gatherBoxes (l : Launch) (D : va_G) (cA : ClassId) (b0 b1 b2 : Nat) (z : Int32) (fr cs : Nat → Int32) (p0 p1 p2 p3 : Nat) (sl tt sm : Nat → Int32) (hsl : slOk sl) : Ci (S := ((Nat → Int32) × Int32)) l y_B_gatherBoxes (Cond.code y_B_gatherBoxes c_B_gatherBoxes 3 (some .boolean) :: WD) rm_B_gatherBoxes D vwCl [(cA, .int)] nws [.ref b0, .ref p0] [(b0, .inr (1, [.ref b1, .ref b2, .int z])), (b1, .inl (cA, 6, .inl fr)), (b2, .inl (cA, 64, .inl cs)), (p0, .inr (3, [.ref p1, .ref p2, .ref p3])), (p1, .inl (cA, 20, .inl sl)), (p2, .inl (cA, 10, .inl tt)), (p3, .inl (cA, 10, .inl sm))] 0 0 (fun r u => r = bI (decide ((lyT sl 20).length ≤ 6)) ∧ ((lyT sl 20).length ≤ 6 → rowL u.1 (lyT sl 20) ∧ u.2 = nI (lyT sl 20).length)) (fun u => [(b0, .inr (1, [.ref b1, .ref b2, .int u.2])), (b1, .inl (cA, 6, .inl u.1)), (b2, .inl (cA, 64, .inl cs)), (p0, .inr (3, [.ref p1, .ref p2, .ref p3])), (p1, .inl (cA, 20, .inl sl)), (p2, .inl (cA, 10, .inl tt)), (p3, .inl (cA, 10, .inl sm))]) := by
  refine Ci.of (cc := c_B_gatherBoxes) (nL := 3) (lv := [(0, .ref b0), (1, .ref p0)]) (by decide) rfl (Nat.le_of_ble_eq_true rfl) rfl ?_
  intro p e s m args below meth cd A Q F hK hN hA ret
  refine j_aloadn F d_B_gatherBoxes_0 0 rfl rfl ?_
  refine j_iconst (v := nI 0) F d_B_gatherBoxes_1 (by decide) ?_
  refine j_put (ci := 1) (v := .int (nI 0)) (ty := .int) (ws' := [(b0, .inr (1, [.ref b1, .ref b2, .int (nI 0)])), (b1, .inl (cA, 6, .inl fr)), (b2, .inl (cA, 64, .inl cs)), (p0, .inr (3, [.ref p1, .ref p2, .ref p3])), (p1, .inl (cA, 20, .inl sl)), (p2, .inl (cA, 10, .inl tt)), (p3, .inl (cA, 10, .inl sm))]) F in_B ty_B tk_B nm_B hK 0 rfl rfl 2 (by decide) (wm k_126) rfl (by decide +kernel) rfl rfl (Nat.le_of_ble_eq_true rfl) d_B_gatherBoxes_2 rfl ?_
  refine j_iconst (v := nI 0) F d_B_gatherBoxes_5 (by decide) ?_
  refine j_istoren (lv' := [(2, .int (nI 0)), (0, .ref b0), (1, .ref p0)]) F d_B_gatherBoxes_6 rfl (by decide) rfl ?_
  have loop7 : ∀ (fuel : Nat) (b : Nat) (g : Nat → Int32) (hfuel7 : 20 - b < fuel) (hb : b ≤ 20) (hlen : (lyT sl b).length ≤ 6) (hg : rowL g (lyT sl b)), J p l e rm_B_gatherBoxes s m args below meth cd D vwCl A s.heap 3 0 0 Q [(b0, .inr (1, [.ref b1, .ref b2, .int (nI ((lyT sl b).length))])), (b1, .inl (cA, 6, .inl g)), (b2, .inl (cA, 64, .inl cs)), (p0, .inr (3, [.ref p1, .ref p2, .ref p3])), (p1, .inl (cA, 20, .inl sl)), (p2, .inl (cA, 10, .inl tt)), (p3, .inl (cA, 10, .inl sm))] [(0, .ref b0), (1, .ref p0), (2, .int (nI b))] 7 [] := by
    intro fuel
    induction fuel with
    | zero => intro b g hfuel; exact absurd hfuel (Nat.not_lt_zero _)
    | succ fuel ih7 =>
      intro b g hfuel7 hb hlen hg
      refine j_iloadn F d_B_gatherBoxes_7 2 rfl rfl ?_
      refine j_bipush (v := nI 20) F d_B_gatherBoxes_8 (by decide) ?_
      refine j_ic_ge (tgt := 65) F d_B_gatherBoxes_10 (by decide) (fun c_10 => ?_) (fun c_10 => ?_)
      · have c_10 : 20 ≤ b := (nI_leI (by omega) (by omega)).mp c_10
        have hin : b = 20 := by omega
        subst hin
        refine j_iconst (v := nI 1) F d_B_gatherBoxes_65 (by decide) ?_
        exact ret _ _ _ _ _ _ (g, nI (lyT sl 20).length) d_B_gatherBoxes_66 rfl (by decide) (by decide) rfl ⟨bI_t (decide_eq_true hlen), fun _ => ⟨hg, rfl⟩⟩
      · have c_10 : ¬ 20 ≤ b := fun h => c_10 ((nI_leI (by omega) (by omega)).mpr h)
        refine j_aloadn F d_B_gatherBoxes_13 1 rfl rfl ?_
        refine j_getN (ci := 3) (v := .ref p1) F in_P hK hN 3 rfl rfl 0 (by decide) n_88 rfl d_B_gatherBoxes_14 ?_
        refine j_iloadn F d_B_gatherBoxes_17 2 rfl rfl ?_
        refine j_iald (v := sl b) F hK 4 0 rfl rfl (by omega) (by decide) d_B_gatherBoxes_18 rfl ?_
        refine j_iconst (v := (-1)) F d_B_gatherBoxes_19 (by decide) ?_
        refine j_ic_eq (tgt := 59) F d_B_gatherBoxes_20 (by decide) (fun c_20 => ?_) (fun c_20 => ?_)
        · have ho : lyT sl (b + 1) = lyT sl b := lyT_f c_20
          rw [← ho] at hg hlen ⊢
          refine j_iinc (v := nI (b + 1)) (lv' := [(2, .int (nI (b + 1))), (0, .ref b0), (1, .ref p0)]) F d_B_gatherBoxes_59 2 rfl (jn_inc b) (by decide) rfl ?_
          refine j_goto (tgt := 7) F d_B_gatherBoxes_62 (by decide) ?_
          refine j_lv (lv' := [(0, .ref b0), (1, .ref p0), (2, .int (nI (b + 1)))]) [1, 2, 0] rfl ?_
          exact ih7 (b + 1) g (by omega) (by omega) (by omega) hg
        · refine j_aloadn F d_B_gatherBoxes_23 0 rfl rfl ?_
          refine j_get (ci := 1) (v := .int (nI ((lyT sl b).length))) F in_B hK 0 rfl rfl 2 (by decide) (wm k_126) rfl d_B_gatherBoxes_24 ?_
          refine j_bipush (v := nI 6) F d_B_gatherBoxes_27 (by decide) ?_
          refine j_ic_lt (tgt := 34) F d_B_gatherBoxes_29 (by decide) (fun c_29 => ?_) (fun c_29 => ?_)
          · have c_29 : ((lyT sl b).length) < 6 := (nI_ltI (by omega) (by omega)).mp c_29
            refine j_aloadn F d_B_gatherBoxes_34 0 rfl rfl ?_
            refine j_get (ci := 1) (v := .ref b1) F in_B hK 0 rfl rfl 0 (by decide) (wm k_124) rfl d_B_gatherBoxes_35 ?_
            refine j_aloadn F d_B_gatherBoxes_38 0 rfl rfl ?_
            refine j_get (ci := 1) (v := .int (nI ((lyT sl b).length))) F in_B hK 0 rfl rfl 2 (by decide) (wm k_126) rfl d_B_gatherBoxes_39 ?_
            refine j_aloadn F d_B_gatherBoxes_42 1 rfl rfl ?_
            refine j_getN (ci := 3) (v := .ref p1) F in_P hK hN 3 rfl rfl 0 (by decide) n_88 rfl d_B_gatherBoxes_43 ?_
            refine j_iloadn F d_B_gatherBoxes_46 2 rfl rfl ?_
            refine j_iald (v := nI (sN sl b)) F hK 4 0 rfl rfl (by omega) (by decide) d_B_gatherBoxes_47 (sN_eq hsl (by omega) c_20).1 ?_
            refine j_iast (ws' := [(b0, .inr (1, [.ref b1, .ref b2, .int (nI ((lyT sl b).length))])), (b1, .inl (cA, 6, .inl (upd g ((lyT sl b).length) (nI (sN sl b))))), (b2, .inl (cA, 64, .inl cs)), (p0, .inr (3, [.ref p1, .ref p2, .ref p3])), (p1, .inl (cA, 20, .inl sl)), (p2, .inl (cA, 10, .inl tt)), (p3, .inl (cA, 10, .inl sm))]) F hK 1 0 rfl rfl (by omega) (by decide) d_B_gatherBoxes_48 rfl ?_
            refine j_aloadn F d_B_gatherBoxes_49 0 rfl rfl ?_
            refine j_dup F d_B_gatherBoxes_50 rfl ?_
            refine j_get (ci := 1) (v := .int (nI ((lyT sl b).length))) F in_B hK 0 rfl rfl 2 (by decide) (wm k_126) rfl d_B_gatherBoxes_51 ?_
            refine j_iconst (v := nI 1) F d_B_gatherBoxes_54 (by decide) ?_
            refine j_iadd (v := nI (((lyT sl b).length) + 1)) F d_B_gatherBoxes_55 (nI_add _ _) ?_
            refine j_put (ci := 1) (v := .int (nI (((lyT sl b).length) + 1))) (ty := .int) (ws' := [(b0, .inr (1, [.ref b1, .ref b2, .int (nI (((lyT sl b).length) + 1))])), (b1, .inl (cA, 6, .inl (upd g ((lyT sl b).length) (nI (sN sl b))))), (b2, .inl (cA, 64, .inl cs)), (p0, .inr (3, [.ref p1, .ref p2, .ref p3])), (p1, .inl (cA, 20, .inl sl)), (p2, .inl (cA, 10, .inl tt)), (p3, .inl (cA, 10, .inl sm))]) F in_B ty_B tk_B nm_B hK 0 rfl rfl 2 (by decide) (wm k_126) rfl (by decide +kernel) rfl rfl (Nat.le_of_ble_eq_true rfl) d_B_gatherBoxes_56 rfl ?_
            have ho : lyT sl (b + 1) = lyT sl b ++ [sN sl b] := lyT_t c_20
            have hl1 : (lyT sl b).length + 1 = (lyT sl (b + 1)).length := by rw [ho, List.length_append]; rfl
            rw [hl1]
            have hg2 : rowL (upd g (lyT sl b).length (nI (sN sl b))) (lyT sl (b + 1)) := by rw [ho]; exact rowL_push hg
            refine j_iinc (v := nI (b + 1)) (lv' := [(2, .int (nI (b + 1))), (0, .ref b0), (1, .ref p0)]) F d_B_gatherBoxes_59 2 rfl (jn_inc b) (by decide) rfl ?_
            refine j_goto (tgt := 7) F d_B_gatherBoxes_62 (by decide) ?_
            refine j_lv (lv' := [(0, .ref b0), (1, .ref p0), (2, .int (nI (b + 1)))]) [1, 2, 0] rfl ?_
            exact ih7 (b + 1) (upd g (lyT sl b).length (nI (sN sl b))) (by omega) (by omega) (by omega) hg2
          · have c_29 : ¬ ((lyT sl b).length) < 6 := fun h => c_29 ((nI_ltI (by omega) (by omega)).mpr h)
            refine j_iconst (v := nI 0) F d_B_gatherBoxes_32 (by decide) ?_
            exact ret _ _ _ _ _ _ (g, nI (lyT sl b).length) d_B_gatherBoxes_33 rfl (by decide) (by decide) rfl (by
              have h7 : 7 ≤ (lyT sl 20).length := by
                have h1 := lyT_mono sl (b + 1) (20 - (b + 1))
                rw [lyT_t c_20, List.length_append, show b + 1 + (20 - (b + 1)) = 20 by omega] at h1
                simp at h1
                omega
              exact ⟨bI_f (decide_eq_false (by omega)), fun h => absurd h (by omega)⟩)
  refine j_lv (lv' := [(0, .ref b0), (1, .ref p0), (2, .int (nI 0))]) [1, 2, 0] rfl ?_
  exact loop7 (20 + 1) 0 fr (by omega) (by omega) (Nat.zero_le _) (fun j hj => absurd hj (Nat.not_lt_zero _))

def rm_B_leastFor : Room := { frames := 2, cells := 0, slots := 0, locals := 45 }
set_option maxHeartbeats 4000000 in
set_option maxRecDepth 100000 in
theorem ct_B_leastFor (l : Launch) (D : va_G) (cA : ClassId) (b0 b1 b2 : Nat) (fr cs : Nat → Int32) (F0 : List Nat) (hFr : rowL fr F0) (hF6 : F0.length ≤ 6) (hF100 : ∀ y, y ∈ F0 → y < 100) (t : Nat) (h1 : 1 ≤ t) (ht : t < 2 ^ F0.length) (hC : ∀ j, j < t → cs j = nI (cst F0 j)) : Ci (S := Unit) l y_B_leastFor (Cond.code y_B_leastFor c_B_leastFor 7 (some .int) :: WD) rm_B_leastFor D vwCl [(cA, .int)] nws [.ref b0, .int (nI t)] [(b0, .inr (1, [.ref b1, .ref b2, .int (nI F0.length)])), (b1, .inl (cA, 6, .inl fr)), (b2, .inl (cA, 64, .inl cs))] 0 0 (fun r _ => r = nI (cst F0 t)) (fun _ => [(b0, .inr (1, [.ref b1, .ref b2, .int (nI F0.length)])), (b1, .inl (cA, 6, .inl fr)), (b2, .inl (cA, 64, .inl cs))]) := by
  refine Ci.of (cc := c_B_leastFor) (nL := 7) (lv := [(0, .ref b0), (1, .int (nI t))]) (by decide) rfl (Nat.le_of_ble_eq_true rfl) rfl ?_
  intro p e s m args below meth cd A Q F hK hN hA ret
  have hpw := pow_le F0.length (by omega)
  have ht64 : t < 64 := by omega
  have hpf := pop_facts F0.length (by omega) t ht
  have hpf1 := hpf.1
  have hpf2 := hpf.2 h1
  refine j_iloadn F d_B_leastFor_0 1 rfl rfl ?_
  refine j_goi (wc := []) (wr := [(b0, .inr (1, [.ref b1, .ref b2, .int (nI F0.length)])), (b1, .inl (cA, 6, .inl fr)), (b2, .inl (cA, 64, .inl cs))]) hA [] [0, 1, 2] rfl rfl (by decide) (by decide) (fun H locs ls hP hD hl => va_runS (As := [.int (nI t)]) (rest := []) F (ct_In_bitCount l D cA t (by omega) H.size) ⟨callB_of 1 F.2.2.2.2 (gd k_416) rfl rfl rfl (F.2.2.2.2 _ (wm k_14)) (F.2.2.2.2 _ (wm k_414)) (by decide +kernel) ⟨by decide, by decide⟩, F.2.2.2.2 _ (wm k_415)⟩ (pre_S hK hN hP hD [] rfl (by decide)) rfl rfl hl.1 rfl (lv_room (Nat.le_of_ble_eq_true rfl)) d_B_leastFor_1 ⟨by decide, by decide⟩) (fun r1 u1 hw1 => ?_)
  subst hw1
  refine j_ws (ws' := [(b0, .inr (1, [.ref b1, .ref b2, .int (nI F0.length)])), (b1, .inl (cA, 6, .inl fr)), (b2, .inl (cA, 64, .inl cs))]) [0, 1, 2] (by decide) rfl ?_
  refine j_iconst (v := nI 1) F d_B_leastFor_4 (by decide) ?_
  refine j_isub (v := nI ((pop t) - 1)) F d_B_leastFor_5 (pk_sub (by omega)) ?_
  refine j_istoren (lv' := [(2, .int (nI ((pop t) - 1))), (0, .ref b0), (1, .int (nI t))]) F d_B_leastFor_6 rfl (by decide) rfl ?_
  refine j_iconst (v := (-1)) F d_B_leastFor_7 (by decide) ?_
  refine j_top (y := bsV F0 (cst F0) t 0) (bsV_0 F0 (cst F0) t).symm ?_
  refine j_istoren (lv' := [(3, .int (bsV F0 (cst F0) t 0)), (2, .int (nI ((pop t) - 1))), (0, .ref b0), (1, .int (nI t))]) F d_B_leastFor_8 rfl (by decide) rfl ?_
  refine j_iconst (v := nI 0) F d_B_leastFor_9 (by decide) ?_
  refine j_istore (lv' := [(4, .int (nI 0)), (3, .int (bsV F0 (cst F0) t 0)), (2, .int (nI ((pop t) - 1))), (0, .ref b0), (1, .int (nI t))]) F d_B_leastFor_10 (by decide) rfl ?_
  have loop12 : ∀ (fuel : Nat) (s0 : Nat) (hfuel12 : F0.length - s0 < fuel) (hs : s0 ≤ F0.length), J p l e rm_B_leastFor s m args below meth cd D vwCl A s.heap 7 0 0 Q [(b0, .inr (1, [.ref b1, .ref b2, .int (nI F0.length)])), (b1, .inl (cA, 6, .inl fr)), (b2, .inl (cA, 64, .inl cs))] [(0, .ref b0), (1, .int (nI t)), (2, .int (nI ((pop t) - 1))), (3, .int (bsV F0 (cst F0) t s0)), (4, .int (nI s0))] 12 [] := by
    intro fuel
    induction fuel with
    | zero => intro s0 hfuel; exact absurd hfuel (Nat.not_lt_zero _)
    | succ fuel ih12 =>
      intro s0 hfuel12 hs
      refine j_iload F d_B_leastFor_12 4 rfl ?_
      refine j_aloadn F d_B_leastFor_14 0 rfl rfl ?_
      refine j_get (ci := 1) (v := .int (nI F0.length)) F in_B hK 0 rfl rfl 2 (by decide) (wm k_126) rfl d_B_leastFor_15 ?_
      refine j_ic_ge (tgt := 80) F d_B_leastFor_18 (by decide) (fun c_18 => ?_) (fun c_18 => ?_)
      · have c_18 : F0.length ≤ s0 := (nI_leI (by omega) (by omega)).mp c_18
        have hin : s0 = F0.length := by omega
        subst hin
        refine j_iloadn F d_B_leastFor_80 3 rfl rfl ?_
        exact ret _ _ _ _ _ _ () d_B_leastFor_81 rfl (by decide) (by decide) rfl (bsV_end hF6 hF100 h1 ht)
      · have c_18 : ¬ F0.length ≤ s0 := fun h => c_18 ((nI_leI (by omega) (by omega)).mpr h)
        have hs6 : s0 < 6 := by omega
        have hbt := bit_test t ht64 s0 hs6
        refine j_iconst (v := nI 1) F d_B_leastFor_21 (by decide) ?_
        refine j_iload F d_B_leastFor_22 4 rfl ?_
        refine j_ishl (v := nI (2 ^ s0)) F d_B_leastFor_24 (bit_shl s0 (by omega)) ?_
        refine j_istore (lv' := [(5, .int (nI (2 ^ s0))), (0, .ref b0), (1, .int (nI t)), (2, .int (nI ((pop t) - 1))), (3, .int (bsV F0 (cst F0) t s0)), (4, .int (nI s0))]) F d_B_leastFor_25 (by decide) rfl ?_
        refine j_iloadn F d_B_leastFor_27 2 rfl rfl ?_
        refine j_iload F d_B_leastFor_28 0 rfl ?_
        refine j_iand (v := nI (t &&& 2 ^ s0)) F d_B_leastFor_30 (bit_and t ht64 s0 hs6) ?_
        refine j_if_eq (tgt := 74) F d_B_leastFor_31 (by decide) (fun c_31 => ?_) (fun c_31 => ?_)
        · have c_31 : (t &&& 2 ^ s0) = 0 := (nI_eq (by omega) (by omega)).mp c_31
          have hb0 := hbt.2.1 c_31
          rw [← bsV_f (F := F0) (C := cst F0) hb0]
          refine j_iinc (v := nI (s0 + 1)) (lv' := [(4, .int (nI (s0 + 1))), (5, .int (nI (2 ^ s0))), (0, .ref b0), (1, .int (nI t)), (2, .int (nI ((pop t) - 1))), (3, .int (bsV F0 (cst F0) t (s0 + 1)))]) F d_B_leastFor_74 5 rfl (jn_inc s0) (by decide) rfl ?_
          refine j_goto (tgt := 12) F d_B_leastFor_77 (by decide) ?_
          refine j_lv (lv' := [(0, .ref b0), (1, .int (nI t)), (2, .int (nI ((pop t) - 1))), (3, .int (bsV F0 (cst F0) t (s0 + 1))), (4, .int (nI (s0 + 1)))]) [2, 3, 4, 5, 0] rfl ?_
          exact ih12 (s0 + 1) (by omega) (by omega)
        · have c_31 : ¬ (t &&& 2 ^ s0) = 0 := fun h => c_31 ((nI_eq (by omega) (by omega)).mpr h)
          have hb1 := hbt.2.2 c_31
          have hbl := bit_less t ht64 s0 hs6 hb1
          have hcl := cst_le hF6 hF100 (t ^^^ 2 ^ s0) (by omega)
          have hF1 : F0.getD (pop t - 1) 0 < 100 := hF100 _ (getD_mem (by omega))
          have hd18 := dst_le (s := F0.getD (pop t - 1) 0) (t := s0) hF1 (by omega)
          refine j_aloadn F d_B_leastFor_34 1 rfl rfl ?_
          refine j_get (ci := 1) (v := .ref b2) F in_B hK 0 rfl rfl 1 (by decide) (wm k_125) rfl d_B_leastFor_35 ?_
          refine j_iloadn F d_B_leastFor_38 2 rfl rfl ?_
          refine j_iload F d_B_leastFor_39 0 rfl ?_
          refine j_ixor (v := nI (t ^^^ 2 ^ s0)) F d_B_leastFor_41 (bit_xor t ht64 s0 hs6) ?_
          refine j_iald (v := nI (cst F0 (t ^^^ 2 ^ s0))) F hK 2 0 rfl rfl (by omega) (by decide) d_B_leastFor_42 (hC _ hbl.1) ?_
          refine j_aloadn F d_B_leastFor_43 1 rfl rfl ?_
          refine j_get (ci := 1) (v := .ref b1) F in_B hK 0 rfl rfl 0 (by decide) (wm k_124) rfl d_B_leastFor_44 ?_
          refine j_iloadn F d_B_leastFor_47 3 rfl rfl ?_
          refine j_iald (v := nI (F0.getD (pop t - 1) 0)) F hK 1 0 rfl rfl (by omega) (by decide) d_B_leastFor_48 (hFr _ (by omega)) ?_
          refine j_iload F d_B_leastFor_49 5 rfl ?_
          refine j_goi (wc := []) (wr := [(b0, .inr (1, [.ref b1, .ref b2, .int (nI F0.length)])), (b1, .inl (cA, 6, .inl fr)), (b2, .inl (cA, 64, .inl cs))]) hA [] [0, 1, 2] rfl rfl (by decide) (by decide) (fun H locs ls hP hD hl => va_runSN (As := [.int (nI (F0.getD (pop t - 1) 0)), .int (nI s0)]) (rest := [.int (nI (cst F0 (t ^^^ 2 ^ s0)))]) F (ct_X_distance l D cA (F0.getD (pop t - 1) 0) s0 (by omega) (by omega) H.size) ⟨va_cnB 2 F.2.2.2.2 (gd k_391) rfl rfl rfl (hN _ n_420).1 (F.2.2.2.2 _ (wm k_1)) (by decide +kernel) ⟨by decide, by decide⟩, F.2.2.2.2 _ (wm k_390), trivial⟩ (pre_S hK hN hP hD [] rfl (by decide)) rfl rfl hl.1 rfl (lv_room (Nat.le_of_ble_eq_true rfl)) d_B_leastFor_51 ⟨by decide, by decide⟩) (fun r51 u51 hw51 => ?_)
          subst hw51
          refine j_ws (ws' := [(b0, .inr (1, [.ref b1, .ref b2, .int (nI F0.length)])), (b1, .inl (cA, 6, .inl fr)), (b2, .inl (cA, 64, .inl cs))]) [0, 1, 2] (by decide) rfl ?_
          refine j_iadd (v := nI ((cst F0 (t ^^^ 2 ^ s0)) + (dst (F0.getD (pop t - 1) 0) s0))) F d_B_leastFor_54 (nI_add _ _) ?_
          refine j_istore (lv' := [(6, .int (nI ((cst F0 (t ^^^ 2 ^ s0)) + (dst (F0.getD (pop t - 1) 0) s0)))), (5, .int (nI (2 ^ s0))), (0, .ref b0), (1, .int (nI t)), (2, .int (nI ((pop t) - 1))), (3, .int (bsV F0 (cst F0) t s0)), (4, .int (nI s0))]) F d_B_leastFor_55 (by decide) rfl ?_
          refine j_iloadn F d_B_leastFor_57 5 rfl rfl ?_
          refine j_iconst (v := (-1)) F d_B_leastFor_58 (by decide) ?_
          refine j_ic_ne (tgt := 67) F d_B_leastFor_59 (by decide) (fun c_59 => ?_) (fun c_59 => ?_)
          · have hbs := bstT_le F0 (cst F0) t s0
            rw [bsV_n c_59]
            refine j_iloadn F d_B_leastFor_67 5 rfl rfl ?_
            refine j_iload F d_B_leastFor_68 0 rfl ?_
            refine j_mmin (v := bsV F0 (cst F0) t (s0 + 1)) F (wm k_421) (wm k_380) (wm k_13) (wm k_381) (by decide) (Nat.le_of_ble_eq_true rfl) (by decide) (by decide) d_B_leastFor_70 (by rw [bsV_2 (F := F0) (C := cst F0) hb1 (by omega)]; exact jn_min (by omega) (by omega)) ?_
            refine j_istoren (lv' := [(3, .int (bsV F0 (cst F0) t (s0 + 1))), (6, .int (nI ((cst F0 (t ^^^ 2 ^ s0)) + (dst (F0.getD (pop t - 1) 0) s0)))), (5, .int (nI (2 ^ s0))), (0, .ref b0), (1, .int (nI t)), (2, .int (nI ((pop t) - 1))), (4, .int (nI s0))]) F d_B_leastFor_73 rfl (by decide) rfl ?_
            refine j_iinc (v := nI (s0 + 1)) (lv' := [(4, .int (nI (s0 + 1))), (3, .int (bsV F0 (cst F0) t (s0 + 1))), (6, .int (nI ((cst F0 (t ^^^ 2 ^ s0)) + (dst (F0.getD (pop t - 1) 0) s0)))), (5, .int (nI (2 ^ s0))), (0, .ref b0), (1, .int (nI t)), (2, .int (nI ((pop t) - 1)))]) F d_B_leastFor_74 6 rfl (jn_inc s0) (by decide) rfl ?_
            refine j_goto (tgt := 12) F d_B_leastFor_77 (by decide) ?_
            refine j_lv (lv' := [(0, .ref b0), (1, .int (nI t)), (2, .int (nI ((pop t) - 1))), (3, .int (bsV F0 (cst F0) t (s0 + 1))), (4, .int (nI (s0 + 1)))]) [4, 5, 6, 1, 0] rfl ?_
            exact ih12 (s0 + 1) (by omega) (by omega)
          · refine j_iload F d_B_leastFor_62 0 rfl ?_
            refine j_goto (tgt := 73) F d_B_leastFor_64 (by decide) ?_
            refine j_top (y := bsV F0 (cst F0) t (s0 + 1)) (bsV_1 hb1 c_59 (by omega)) ?_
            refine j_istoren (lv' := [(3, .int (bsV F0 (cst F0) t (s0 + 1))), (6, .int (nI ((cst F0 (t ^^^ 2 ^ s0)) + (dst (F0.getD (pop t - 1) 0) s0)))), (5, .int (nI (2 ^ s0))), (0, .ref b0), (1, .int (nI t)), (2, .int (nI ((pop t) - 1))), (4, .int (nI s0))]) F d_B_leastFor_73 rfl (by decide) rfl ?_
            refine j_iinc (v := nI (s0 + 1)) (lv' := [(4, .int (nI (s0 + 1))), (3, .int (bsV F0 (cst F0) t (s0 + 1))), (6, .int (nI ((cst F0 (t ^^^ 2 ^ s0)) + (dst (F0.getD (pop t - 1) 0) s0)))), (5, .int (nI (2 ^ s0))), (0, .ref b0), (1, .int (nI t)), (2, .int (nI ((pop t) - 1)))]) F d_B_leastFor_74 6 rfl (jn_inc s0) (by decide) rfl ?_
            refine j_goto (tgt := 12) F d_B_leastFor_77 (by decide) ?_
            refine j_lv (lv' := [(0, .ref b0), (1, .int (nI t)), (2, .int (nI ((pop t) - 1))), (3, .int (bsV F0 (cst F0) t (s0 + 1))), (4, .int (nI (s0 + 1)))]) [4, 5, 6, 1, 0] rfl ?_
            exact ih12 (s0 + 1) (by omega) (by omega)
  refine j_lv (lv' := [(0, .ref b0), (1, .int (nI t)), (2, .int (nI ((pop t) - 1))), (3, .int (bsV F0 (cst F0) t 0)), (4, .int (nI 0))]) [3, 4, 2, 1, 0] rfl ?_
  exact loop12 (F0.length + 1) 0 (by omega) (by omega)

def rm_B_leastWay : Room := { frames := 3, cells := 0, slots := 0, locals := 71 }
set_option maxHeartbeats 4000000 in
set_option maxRecDepth 100000 in
theorem ct_B_leastWay (l : Launch) (D : va_G) (cA : ClassId) (b0 b1 b2 : Nat) (z : Int32) (fr cs : Nat → Int32) (p0 p1 p2 p3 : Nat) (sl tt sm : Nat → Int32) (hsl : slOk sl) : Ci (S := (((Nat → Int32) × (Nat → Int32)) × Int32)) l y_B_leastWay (Cond.code y_B_leastWay c_B_leastWay 4 (some .int) :: WD) rm_B_leastWay D vwCl [(cA, .int)] nws [.ref b0, .ref p0] [(b0, .inr (1, [.ref b1, .ref b2, .int z])), (b1, .inl (cA, 6, .inl fr)), (b2, .inl (cA, 64, .inl cs)), (p0, .inr (3, [.ref p1, .ref p2, .ref p3])), (p1, .inl (cA, 20, .inl sl)), (p2, .inl (cA, 10, .inl tt)), (p3, .inl (cA, 10, .inl sm))] 0 0 (fun r _ => r = lstP sl) (fun u => [(b0, .inr (1, [.ref b1, .ref b2, .int u.2])), (b1, .inl (cA, 6, .inl u.1.1)), (b2, .inl (cA, 64, .inl u.1.2)), (p0, .inr (3, [.ref p1, .ref p2, .ref p3])), (p1, .inl (cA, 20, .inl sl)), (p2, .inl (cA, 10, .inl tt)), (p3, .inl (cA, 10, .inl sm))]) := by
  refine Ci.of (cc := c_B_leastWay) (nL := 4) (lv := [(0, .ref b0), (1, .ref p0)]) (by decide) rfl (Nat.le_of_ble_eq_true rfl) rfl ?_
  intro p e s m args below meth cd A Q F hK hN hA ret
  refine j_aloadn F d_B_leastWay_0 0 rfl rfl ?_
  refine j_aloadn F d_B_leastWay_1 1 rfl rfl ?_
  refine j_goi (wc := [(b0, .inr (1, [.ref b1, .ref b2, .int z])), (b1, .inl (cA, 6, .inl fr)), (b2, .inl (cA, 64, .inl cs)), (p0, .inr (3, [.ref p1, .ref p2, .ref p3])), (p1, .inl (cA, 20, .inl sl)), (p2, .inl (cA, 10, .inl tt)), (p3, .inl (cA, 10, .inl sm))]) (wr := []) hA [0, 1, 2, 3, 4, 5, 6] [] rfl rfl (by decide) (by decide) (fun H locs ls hP hD hl => va_runV (As := [.ref p0]) (rest := []) F (ct_B_gatherBoxes l D cA b0 b1 b2 z fr cs p0 p1 p2 p3 sl tt sm hsl H.size) ⟨callB_of 1 F.2.2.2.2 (gd k_409) rfl rfl rfl (F.2.2.2.2 _ (wm k_6)) (F.2.2.2.2 _ (wm k_406)) (by decide +kernel) ⟨by decide, by decide⟩, F.2.2.2.2 _ (wm k_408), F.2.2.2.2 _ (wm ks_22)⟩ (pre_V rfl hK hN hP hD [0, 1, 2, 3, 4, 5, 6] rfl (by decide) 0 rfl rfl) rfl rfl hl.1 rfl (lv_room (Nat.le_of_ble_eq_true rfl)) d_B_leastWay_2 ⟨by decide, by decide⟩) (fun r2 u2 hw2 => ?_)
  obtain ⟨hwa, hwb⟩ := hw2
  subst hwa
  refine j_ws (ws' := [(b0, .inr (1, [.ref b1, .ref b2, .int u2.2])), (b1, .inl (cA, 6, .inl u2.1)), (b2, .inl (cA, 64, .inl cs)), (p0, .inr (3, [.ref p1, .ref p2, .ref p3])), (p1, .inl (cA, 20, .inl sl)), (p2, .inl (cA, 10, .inl tt)), (p3, .inl (cA, 10, .inl sm))]) [0, 1, 2, 3, 4, 5, 6] (by decide) rfl ?_
  refine j_if_ne (tgt := 10) F d_B_leastWay_5 (by decide) (fun c_5 => ?_) (fun c_5 => ?_)
  · have hle : (lyT sl 20).length ≤ 6 := of_decide_eq_true (bI_1 c_5)
    obtain ⟨hFr, hsz⟩ := hwb hle
    have hF100 := lyT_lt hsl (b := 20) (Nat.le_refl _)
    obtain ⟨F1, hF1⟩ : ∃ F1, F1 = lyT sl 20 := ⟨_, rfl⟩
    rw [← hF1] at hle hFr hsz hF100
    rw [hsz]
    have hpw := pow_le F1.length (by omega)
    refine j_iconst (v := nI 1) F d_B_leastWay_10 (by decide) ?_
    refine j_aloadn F d_B_leastWay_11 0 rfl rfl ?_
    refine j_get (ci := 1) (v := .int (nI F1.length)) F in_B hK 0 rfl rfl 2 (by decide) (wm k_126) rfl d_B_leastWay_12 ?_
    refine j_ishl (v := nI (2 ^ F1.length)) F d_B_leastWay_15 (bit_shl F1.length (by omega)) ?_
    refine j_iconst (v := nI 1) F d_B_leastWay_16 (by decide) ?_
    refine j_isub (v := nI ((2 ^ F1.length) - 1)) F d_B_leastWay_17 (pk_sub (by omega)) ?_
    refine j_istoren (lv' := [(2, .int (nI ((2 ^ F1.length) - 1))), (0, .ref b0), (1, .ref p0)]) F d_B_leastWay_18 rfl (by decide) rfl ?_
    refine j_aloadn F d_B_leastWay_19 1 rfl rfl ?_
    refine j_get (ci := 1) (v := .ref b2) F in_B hK 0 rfl rfl 1 (by decide) (wm k_125) rfl d_B_leastWay_20 ?_
    refine j_iconst (v := nI 0) F d_B_leastWay_23 (by decide) ?_
    refine j_iconst (v := nI 0) F d_B_leastWay_24 (by decide) ?_
    refine j_iast (ws' := [(b0, .inr (1, [.ref b1, .ref b2, .int (nI F1.length)])), (b1, .inl (cA, 6, .inl u2.1)), (b2, .inl (cA, 64, .inl (upd cs 0 (nI 0)))), (p0, .inr (3, [.ref p1, .ref p2, .ref p3])), (p1, .inl (cA, 20, .inl sl)), (p2, .inl (cA, 10, .inl tt)), (p3, .inl (cA, 10, .inl sm))]) F hK 2 0 rfl rfl (by omega) (by decide) d_B_leastWay_25 rfl ?_
    refine j_iconst (v := nI 1) F d_B_leastWay_26 (by decide) ?_
    refine j_istoren (lv' := [(3, .int (nI 1)), (2, .int (nI ((2 ^ F1.length) - 1))), (0, .ref b0), (1, .ref p0)]) F d_B_leastWay_27 rfl (by decide) rfl ?_
    have loop28 : ∀ (fuel : Nat) (t : Nat) (g : Nat → Int32) (hfuel28 : 2 ^ F1.length - t < fuel) (ht1 : 1 ≤ t) (ht2 : t ≤ 2 ^ F1.length) (hC : ∀ j, j < t → g j = nI (cst F1 j)), J p l e rm_B_leastWay s m args below meth cd D vwCl A s.heap 4 0 0 Q [(b0, .inr (1, [.ref b1, .ref b2, .int (nI F1.length)])), (b1, .inl (cA, 6, .inl u2.1)), (b2, .inl (cA, 64, .inl g)), (p0, .inr (3, [.ref p1, .ref p2, .ref p3])), (p1, .inl (cA, 20, .inl sl)), (p2, .inl (cA, 10, .inl tt)), (p3, .inl (cA, 10, .inl sm))] [(0, .ref b0), (1, .ref p0), (2, .int (nI ((2 ^ F1.length) - 1))), (3, .int (nI t))] 28 [] := by
      intro fuel
      induction fuel with
      | zero => intro t g hfuel; exact absurd hfuel (Nat.not_lt_zero _)
      | succ fuel ih28 =>
        intro t g hfuel28 ht1 ht2 hC
        refine j_iloadn F d_B_leastWay_28 3 rfl rfl ?_
        refine j_iloadn F d_B_leastWay_29 2 rfl rfl ?_
        refine j_ic_gt (tgt := 50) F d_B_leastWay_30 (by decide) (fun c_30 => ?_) (fun c_30 => ?_)
        · have c_30 : ((2 ^ F1.length) - 1) < t := (nI_ltI (by omega) (by omega)).mp c_30
          refine j_aloadn F d_B_leastWay_50 0 rfl rfl ?_
          refine j_get (ci := 1) (v := .ref b2) F in_B hK 0 rfl rfl 1 (by decide) (wm k_125) rfl d_B_leastWay_51 ?_
          refine j_iloadn F d_B_leastWay_54 2 rfl rfl ?_
          refine j_iald (v := nI (cst F1 (2 ^ F1.length - 1))) F hK 2 0 rfl rfl (by omega) (by decide) d_B_leastWay_55 (hC _ (by omega)) ?_
          exact ret _ _ _ _ _ _ ((u2.1, g), nI F1.length) d_B_leastWay_56 rfl (by decide) (by decide) rfl (by subst hF1; unfold lstP; rw [if_pos hle])
        · have c_30 : ¬ ((2 ^ F1.length) - 1) < t := fun h => c_30 ((nI_ltI (by omega) (by omega)).mpr h)
          refine j_aloadn F d_B_leastWay_33 0 rfl rfl ?_
          refine j_get (ci := 1) (v := .ref b2) F in_B hK 0 rfl rfl 1 (by decide) (wm k_125) rfl d_B_leastWay_34 ?_
          refine j_iloadn F d_B_leastWay_37 3 rfl rfl ?_
          refine j_aloadn F d_B_leastWay_38 0 rfl rfl ?_
          refine j_iloadn F d_B_leastWay_39 3 rfl rfl ?_
          refine j_goi (wc := [(b0, .inr (1, [.ref b1, .ref b2, .int (nI F1.length)])), (b1, .inl (cA, 6, .inl u2.1)), (b2, .inl (cA, 64, .inl g))]) (wr := [(p0, .inr (3, [.ref p1, .ref p2, .ref p3])), (p1, .inl (cA, 20, .inl sl)), (p2, .inl (cA, 10, .inl tt)), (p3, .inl (cA, 10, .inl sm))]) hA [0, 1, 2] [3, 4, 5, 6] rfl rfl (by decide) (by decide) (fun H locs ls hP hD hl => va_runV (As := [.int (nI t)]) (rest := [.int (nI t), .ref b2]) F (ct_B_leastFor l D cA b0 b1 b2 u2.1 g F1 hFr hle hF100 t (by omega) (by omega) hC H.size) ⟨callB_of 1 F.2.2.2.2 (gd k_413) rfl rfl rfl (F.2.2.2.2 _ (wm k_6)) (F.2.2.2.2 _ (wm k_410)) (by decide +kernel) ⟨by decide, by decide⟩, F.2.2.2.2 _ (wm k_412), F.2.2.2.2 _ (wm ks_23)⟩ (pre_V rfl hK hN hP hD [0, 1, 2] rfl (by decide) 0 rfl rfl) rfl rfl hl.1 rfl (lv_room (Nat.le_of_ble_eq_true rfl)) d_B_leastWay_40 ⟨by decide, by decide⟩) (fun r40 u40 hw40 => ?_)
          subst hw40
          refine j_ws (ws' := [(b0, .inr (1, [.ref b1, .ref b2, .int (nI F1.length)])), (b1, .inl (cA, 6, .inl u2.1)), (b2, .inl (cA, 64, .inl g)), (p0, .inr (3, [.ref p1, .ref p2, .ref p3])), (p1, .inl (cA, 20, .inl sl)), (p2, .inl (cA, 10, .inl tt)), (p3, .inl (cA, 10, .inl sm))]) [4, 5, 6, 0, 1, 2, 3] (by decide) rfl ?_
          refine j_iast (ws' := [(b0, .inr (1, [.ref b1, .ref b2, .int (nI F1.length)])), (b1, .inl (cA, 6, .inl u2.1)), (b2, .inl (cA, 64, .inl (upd g t (nI (cst F1 t))))), (p0, .inr (3, [.ref p1, .ref p2, .ref p3])), (p1, .inl (cA, 20, .inl sl)), (p2, .inl (cA, 10, .inl tt)), (p3, .inl (cA, 10, .inl sm))]) F hK 2 0 rfl rfl (by omega) (by decide) d_B_leastWay_43 rfl ?_
          refine j_iinc (v := nI (t + 1)) (lv' := [(3, .int (nI (t + 1))), (0, .ref b0), (1, .ref p0), (2, .int (nI ((2 ^ F1.length) - 1)))]) F d_B_leastWay_44 3 rfl (jn_inc t) (by decide) rfl ?_
          refine j_goto (tgt := 28) F d_B_leastWay_47 (by decide) ?_
          refine j_lv (lv' := [(0, .ref b0), (1, .ref p0), (2, .int (nI ((2 ^ F1.length) - 1))), (3, .int (nI (t + 1)))]) [1, 2, 3, 0] rfl ?_
          exact ih28 (t + 1) (upd g t (nI (cst F1 t))) (by omega) (by omega) (by omega) (fun j hj => by
            by_cases e1 : j = t
            · rw [e1, upd_eq]
            · rw [upd_ne e1]; exact hC j (by omega))
    refine j_lv (lv' := [(0, .ref b0), (1, .ref p0), (2, .int (nI ((2 ^ F1.length) - 1))), (3, .int (nI 1))]) [2, 3, 1, 0] rfl ?_
    exact loop28 (2 ^ F1.length + 1) 1 (upd cs 0 (nI 0)) (by omega) (by omega) (by omega) (fun j hj => by
      have hj0 : j = 0 := by omega
      subst hj0; rw [upd_eq]; rfl)
  · refine j_iconst (v := (-1)) F d_B_leastWay_8 (by decide) ?_
    exact ret _ _ _ _ _ _ ((u2.1, cs), u2.2) d_B_leastWay_9 rfl (by decide) (by decide) rfl (by unfold lstP; rw [if_neg (of_decide_eq_false (bI_0 c_5))])
