/-! rows for the law: longs, the script, methods with an exception table -/
section JLW
variable {p : Program} {l : Launch} {e : Env} {R : Room} {s : State} {m : MethodId} {args : Array Value} {below : List Frame} {meth : Method} {c : Code} {Q : State → Prop} {D : va_G} {cl : List vw_C} {tys : List (ClassId × FieldType)} {A : Nat → Prop} {H0 : Heap} {nL cells slots : Nat}
variable {ws ws' : va_W} {lv lv' : List (Nat × Value)} {pc : Nat} {st : List Value} {cc : ByteArray} {Ts : List Cond} {own : String}
theorem j_i2l (F : CallFix p m c cc nL s args Ts own) {x : Int32} (d : decode cc pc = .ok (.i2l, 1)) (k : J p l e R s m args below meth c D cl A H0 nL cells slots Q ws lv (pc + 1) (.long x.toInt64 :: st)) : J p l e R s m args below meth c D cl A H0 nL cells slots Q ws lv pc (.int x :: st) := fun H locs ls hP hD hS h => lv_i2l F.1 F.2.1 d rfl (k H locs ls hP hD hS h)
theorem j_last (F : CallFix p m c cc nL s args Ts own) (hK : va_K D cl tys s) (q0 t0 : Nat) {a : Nat} {cA : ClassId} {n : Nat} {f : Nat → Int64} (ha : ws[q0]? = some (a, .inl (cA, n, .inr (.inl f)))) (ht : tys[t0]? = some (cA, .long)) {i : Nat} {x : Int64} (hi : i < n) (hn : n < 2147483648) (d : decode cc pc = .ok (.lastore, 1)) (hw : ws.set q0 (a, .inl (cA, n, .inr (.inl (vp_updL f i x)))) = ws')
    (k : J p l e R s m args below meth c D cl A H0 nL cells slots Q ws' lv (pc + 1) st) : J p l e R s m args below meth c D cl A H0 nL cells slots Q ws lv pc (.long x :: .int (nI i) :: .ref a :: st) := fun H locs ls hP hD hS hl => va_last F.1 F.2.1 hK hP hD hS q0 t0 ha ht (vp_in_nI hi hn) d (by rw [nI_clamp (Nat.lt_trans hi hn), hw]; exact fun H1 locs1 hP1 hD1 hS1 => k H1 locs1 ls hP1 hD1 hS1 hl)
theorem j_lald (F : CallFix p m c cc nL s args Ts own) (hK : va_K D cl tys s) (q0 t0 : Nat) {a : Nat} {cA : ClassId} {n : Nat} {f : Nat → Int64} (ha : ws[q0]? = some (a, .inl (cA, n, .inr (.inl f)))) (ht : tys[t0]? = some (cA, .long)) {i : Nat} {v : Int64} (hi : i < n) (hn : n < 2147483648) (d : decode cc pc = .ok (.laload, 1)) (hv : f i = v)
    (k : J p l e R s m args below meth c D cl A H0 nL cells slots Q ws lv (pc + 1) (.long v :: st)) : J p l e R s m args below meth c D cl A H0 nL cells slots Q ws lv pc (.int (nI i) :: .ref a :: st) := fun H locs ls hP hD hS hl => va_lald F.1 F.2.1 hK hP q0 t0 ha ht (vp_in_nI hi hn) d (by rw [nI_clamp (Nat.lt_trans hi hn), hv]; exact k H locs ls hP hD hS hl)
theorem j_lcmp (F : CallFix p m c cc nL s args Ts own) {x y : Int64} (hxy : x = y) (d : decode cc pc = .ok (.lcmp, 1)) (k : J p l e R s m args below meth c D cl A H0 nL cells slots Q ws lv (pc + 1) (.int (nI 0) :: st)) : J p l e R s m args below meth c D cl A H0 nL cells slots Q ws lv pc (.long y :: .long x :: st) := fun H locs ls hP hD hS h => W.lcmp F.1 F.2.1 d (by
  have e0 : lg_cmp x y = nI 0 := by
    subst hxy
    unfold lg_cmp
    simp [Int64.lt_irrefl, nI_0]
  rw [e0]
  exact k H locs ls hP hD hS h)
theorem j_sld (F : CallFix p m c cc nL s args Ts own) {b L : Nat} {xs : Nat → Int32} (hX : va_X b L xs s H0) (hbl : b < H0.size) (hbA : ¬ A b) {i : Nat} (hi : i < L) (hL : L < 2147483648) (d : decode cc pc = .ok (.iaload, 1)) (k : J p l e R s m args below meth c D cl A H0 nL cells slots Q ws lv (pc + 1) (.int (xs i) :: st)) : J p l e R s m args below meth c D cl A H0 nL cells slots Q ws lv pc (.int (nI i) :: .ref b :: st) := fun H locs ls hP hD hS hl => va_sld F.1 F.2.1 hX hbl hbA hS (vp_in_nI hi hL) d (by rw [nI_clamp (Nat.lt_trans hi hL)]; exact k H locs ls hP hD hS hl)
theorem j_slen (F : CallFix p m c cc nL s args Ts own) {b L : Nat} {xs : Nat → Int32} (hX : va_X b L xs s H0) (hbl : b < H0.size) (hbA : ¬ A b) (d : decode cc pc = .ok (.arraylength, 1)) (k : J p l e R s m args below meth c D cl A H0 nL cells slots Q ws lv (pc + 1) (.int (nI L) :: st)) : J p l e R s m args below meth c D cl A H0 nL cells slots Q ws lv pc (.ref b :: st) := fun H locs ls hP hD hS hl => va_slen F.1 F.2.1 hX hbl hbA hS d (k H locs ls hP hD hS hl)
theorem jx_catch {E name : String} {a b h ct : Nat} (F : CallFix p m c cc nL s args Ts own) (htab : c.exceptionTable.toList = tableOf [(a, b, h, ct)]) (hx : covers ⟨a, b, h, ct⟩ pc = true) (h0 : ct ≠ 0) (hlink : Cond.classLink own ct name ∈ Ts) (hcast : (Cond.castable E name).before args s = true) (k : ∀ q : Nat, J p l e R s m args below meth c D cl A H0 nL cells slots Q ws lv h [.ref q]) : JX p l e R s m args below meth c D cl A H0 nL cells slots Q ws lv pc E :=
  fun H locs ls rest q ce hP hD hS hl hce hcv hcl => vx_catch F.2.2.2.1 [] ⟨a, b, h, ct⟩ [] htab (fun z hz => absurd hz List.not_mem_nil) hx h0 (F.2.2.2.2 _ hlink) hcast hce hcv hcl (k q H locs ls hP hD hS hl)
section MkW
variable {S : Type} {y : MethodName} {wy wy' : List Cond} {rm : Room} {nws : List Cond} {As : List Value} {wc : va_W} {mc ms : Nat}
def CiX {S : Type} (l : Launch) (y : MethodName) (wy : List Cond) (rm : Room) (D : va_G) (cl : List vw_C) (tys : List (ClassId × FieldType)) (nws : List Cond) (As : List Value) (wc : va_W) (mc ms : Nat) (post : Int32 → S → Prop) (wn : S → va_W) : Prop :=
  ∀ sz, Met l y wy rm (va_Pc As (XPre D cl tys nws wc sz)) (va_Qi post (CEnd D cl (va_A wc sz) wn) (va_A wc sz)) mc ms (va_A wc sz)
theorem CiX.of {ty : FieldType} {hh : List (Nat × Nat × Nat × Nat)} {post : Int32 → S → Prop} {wn : S → va_W} (hy : plainName y.cls = true) (hw : wy = Cond.codeWith y cc nL (some ty) hh :: wy') (hlen : (lg_sl As).length ≤ nL) (hlv : lv_args 0 As = lv)
    (body : ∀ (p : Program) (e : Env) (s : State) (m : MethodId) (args : Array Value) (below : List Frame) (meth : Method) (c : Code) (A : Nat → Prop) (Q : State → Prop), CallFix p m c cc nL s args wy y.cls → va_K D cl tys s → NWs nws s → EX A s s.heap → (∀ q, s.heap.size ≤ q → A q) → c.exceptionTable.toList = tableOf hh →
      RetI p l e rm s m args below meth c D cl A nL Q cc ty mc ms post wn → J p l e rm s m args below meth c D cl A s.heap nL 0 0 Q wc lv 0 []) : CiX l y wy rm D cl tys nws As wc mc ms post wn := by
  intro sz
  refine va_MetW (cc := cc) (maxL := nL) (ret := some ty) (hh := hh) hy hw ?_
  intro p e s m args below meth c s₁ B hml hv
  obtain ⟨rfl, ⟨hsz, hP, hK, hD0, hN⟩, hE⟩ := hv
  subst hsz
  have h := lv_entry As (n := nL) hlen
  rw [lg_entry_eq]
  rw [hlv] at h
  have hts := atoms_spec (ws := wy) B.pre
  have F : CallFix p m c cc nL s As.toArray wy y.cls := ⟨B.exec, B.bytes, hml, findClass_of_methodNamed B.named, hts⟩
  have hr := B.returns
  have hlocks := B.notSynchronized
  have htab := vx_table (x := y) B (hts (Cond.codeWith y cc nL (some ty) hh) (by rw [hw]; exact List.mem_cons_self))
  refine body p e s m As.toArray below meth c (va_A wc s.heap.size) _ F hK hN hE (fun q h => Or.inr h) htab ?_ s.heap [] _ hP (hD0.self (sz := s.heap.size)) va_S.rf h
  intro ws lv pc cells slots v u d hn hc hs hws hpost H locs ls hP hD hS hl
  subst hws
  refine W.widen hc hs ?_
  exact W.zret F.1 F.2.1 hr hn (fun t ht hW => ⟨⟨v, u, rfl, hpost, by rw [ht]; exact hP, hD⟩, hS.F ht⟩) hS.2.2 d hlocks
/-- a call that hands the exceptions' premises on -/
theorem j_goe {post : Int32 → S → Prop} {wn : S → va_W} {wr : va_W} {st0 : List Value} {a : Array Value} (hA : ∀ q, s.heap.size ≤ q → A q) (isC isR : List Nat) (hC : isC.map (fun i => ws[i]?) = wc.map some) (hR : isR.map (fun i => ws[i]?) = wr.map some) (hn : va_nd isR = true) (hdis : ∀ i ∈ isR, i ∉ isC)
    (run : ∀ (H : Heap) (locs : List Loc) (ls : Array Slot), va_P D cl ws H → va_D A ws → va_S A s.heap H locs → lv_has ls nL lv → va_Run p l e R s m args below meth c H locs cells slots mc ms (F0 m pc ls st0) st (va_Qi post (CEnd D cl (va_A wc H.size) wn) (va_A wc H.size) a) (va_A wc H.size))
    (k : ∀ (r : Int32) (u : S), post r u → J p l e R s m args below meth c D cl A s.heap nL (cells + mc) (slots + ms) Q (wr ++ wn u) lv (pc + 3) (.int r :: st)) : J p l e R s m args below meth c D cl A s.heap nL cells slots Q ws lv pc st0 := by
  intro H locs ls hP hD hS hl
  have hFc := va_free hD hS hA isC hC
  refine va_calli (run H locs ls hP hD hS hl) hS (fun q _ h => hFc q h) hFc (fun r u t H1 locs1 ht hvm hw hB hz1 hk1 hS1 => ?_)
  obtain ⟨hP1, hD1⟩ := hB
  rw [ht] at hP1
  obtain ⟨hP2, hD2⟩ := va_join hP hD isC isR hC hR hn hdis hk1 hFc hP1 hD1
  exact k r u hw H1 locs1 ls hP2 hD2 hS1 hl
end MkW
end JLW
theorem updL_0 {f : Nat → Int64} {x : Int64} : vp_updL f 0 x 0 = x := pk_uLs
theorem law_more {L i : Nat} (hL : L ≤ 2560) (h : 5 * i ≤ L + 5) : (nI L - nI 5 < nI (5 * i) → L < 5 * i + 5) ∧ (¬ nI L - nI 5 < nI (5 * i) → 5 * i + 5 ≤ L) := by
  rw [jn_lt, pk_sub_toInt (by omega) (by omega), nI_toInt (by omega)]
  constructor
  · intro q
    omega
  · intro q
    omega
theorem jn_sw11 (x : Int32) : (x.toInt = 0 ∧ x = nI 0) ∨ (x.toInt = 1 ∧ x = nI 1) ∨ (x.toInt = 2 ∧ x = nI 2) ∨ (x.toInt = 3 ∧ x = nI 3) ∨ (x.toInt = 4 ∧ x = nI 4) ∨ (x.toInt = 5 ∧ x = nI 5) ∨ (x.toInt = 6 ∧ x = nI 6) ∨ (x.toInt = 7 ∧ x = nI 7) ∨ (x.toInt = 8 ∧ x = nI 8) ∨ (x.toInt = 9 ∧ x = nI 9) ∨ (x.toInt = 10 ∧ x = nI 10) ∨ (x.toInt = 11 ∧ x = nI 11) ∨ ((x.toInt < 0 ∨ 11 < x.toInt) ∧ ∀ k, k ≤ 11 → x ≠ nI k) := by
  by_cases h0 : x.toInt = 0
  · exact Or.inl ⟨h0, jn_of (by decide) h0⟩
  by_cases h1 : x.toInt = 1
  · exact Or.inr (Or.inl ⟨h1, jn_of (by decide) h1⟩)
  by_cases h2 : x.toInt = 2
  · exact Or.inr (Or.inr (Or.inl ⟨h2, jn_of (by decide) h2⟩))
  by_cases h3 : x.toInt = 3
  · exact Or.inr (Or.inr (Or.inr (Or.inl ⟨h3, jn_of (by decide) h3⟩)))
  by_cases h4 : x.toInt = 4
  · exact Or.inr (Or.inr (Or.inr (Or.inr (Or.inl ⟨h4, jn_of (by decide) h4⟩))))
  by_cases h5 : x.toInt = 5
  · exact Or.inr (Or.inr (Or.inr (Or.inr (Or.inr (Or.inl ⟨h5, jn_of (by decide) h5⟩)))))
  by_cases h6 : x.toInt = 6
  · exact Or.inr (Or.inr (Or.inr (Or.inr (Or.inr (Or.inr (Or.inl ⟨h6, jn_of (by decide) h6⟩))))))
  by_cases h7 : x.toInt = 7
  · exact Or.inr (Or.inr (Or.inr (Or.inr (Or.inr (Or.inr (Or.inr (Or.inl ⟨h7, jn_of (by decide) h7⟩)))))))
  by_cases h8 : x.toInt = 8
  · exact Or.inr (Or.inr (Or.inr (Or.inr (Or.inr (Or.inr (Or.inr (Or.inr (Or.inl ⟨h8, jn_of (by decide) h8⟩))))))))
  by_cases h9 : x.toInt = 9
  · exact Or.inr (Or.inr (Or.inr (Or.inr (Or.inr (Or.inr (Or.inr (Or.inr (Or.inr (Or.inl ⟨h9, jn_of (by decide) h9⟩)))))))))
  by_cases h10 : x.toInt = 10
  · exact Or.inr (Or.inr (Or.inr (Or.inr (Or.inr (Or.inr (Or.inr (Or.inr (Or.inr (Or.inr (Or.inl ⟨h10, jn_of (by decide) h10⟩))))))))))
  by_cases h11 : x.toInt = 11
  · exact Or.inr (Or.inr (Or.inr (Or.inr (Or.inr (Or.inr (Or.inr (Or.inr (Or.inr (Or.inr (Or.inr (Or.inl ⟨h11, jn_of (by decide) h11⟩)))))))))))
  refine Or.inr (Or.inr (Or.inr (Or.inr (Or.inr (Or.inr (Or.inr (Or.inr (Or.inr (Or.inr (Or.inr (Or.inr (⟨by omega, fun k hk e => ?_⟩))))))))))))
  have := nI_toInt (n := k) (by omega)
  rw [← e] at this
  omega
