/-! Methods that throw: the same layer for an exception in flight (JX), and the contract Cx of a method that throws E for sure. -/
section EXL
variable {p : Program} {l : Launch} {e : Env} {R : Room} {s : State} {m : MethodId} {args : Array Value} {below : List Frame} {meth : Method} {c : Code} {Q : State → Prop} {D : va_G} {cl : List vw_C} {tys : List (ClassId × FieldType)} {A : Nat → Prop} {H0 : Heap} {nL cells slots : Nat}
variable {ws ws' : va_W} {lv lv' : List (Nat × Value)} {pc : Nat} {st : List Value} {cc : ByteArray} {Ts : List Cond} {own : String}
def EX (A : Nat → Prop) (U : State) (H : Heap) : Prop := vx_Zq Bundle.tN "UNASSIGNED_STACK" Bundle.steD A U H ∧ vx_Zq Bundle.tN "SUPPRESSED_SENTINEL" Bundle.listD A U H ∧ (∃ z, vk_R R_X 163 "no such number" z U) ∧ (∃ z, vk_R R_X 154 "no such time" z U) ∧ (∃ z, vk_R R_X 115 "no such act" z U) ∧ ∃ z, vk_R R_X 139 "no such what" z U
theorem EX.call {B : Nat → Prop} {U : State} {H : Heap} {locs : List Loc} (h : EX A s s.heap) (hS : va_S A s.heap H locs) (hB : ∀ q, B q → A q) (hU : U.heap = H) (hW : s.WarmedH U.vm) : EX B U U.heap := by
  obtain ⟨h1, h2, ⟨z3, h3⟩, ⟨z4, h4⟩, ⟨z5, h5⟩, z6, h6⟩ := h
  rw [hU]
  exact ⟨vx_Zq.moved hW.alike ((h1.kept hS.2.1).narrow hB), vx_Zq.moved hW.alike ((h2.kept hS.2.1).narrow hB), ⟨z3, h3.warm hW⟩, ⟨z4, h4.warm hW⟩, ⟨z5, h5.warm hW⟩, z6, h6.warm hW⟩
theorem EX.same {U V : State} (hv : V.vm = U.vm) (hh : V.heap = U.heap) (h : EX A U U.heap) : EX A V V.heap := by
  obtain ⟨h1, h2, ⟨z3, h3⟩, ⟨z4, h4⟩, ⟨z5, h5⟩, z6, h6⟩ := h
  rw [hh]
  have ha : U.vm.Alike V.vm := by rw [hv]; exact Vm.Alike.refl U.vm
  exact ⟨vx_Zq.moved ha h1, vx_Zq.moved ha h2, ⟨z3, h3.same hv⟩, ⟨z4, h4.same hv⟩, ⟨z5, h5.same hv⟩, z6, h6.same hv⟩
def XPre (D : va_G) (cl : List vw_C) (tys : List (ClassId × FieldType)) (nws : List Cond) (wc : va_W) (sz : Nat) (U : State) : Prop := CPre D cl tys nws wc sz U ∧ EX (va_A wc sz) U U.heap
theorem XPre.blind {nws : List Cond} {wc : va_W} {sz : Nat} {As : List Value} : FrameBlind (va_Pc As (XPre D cl tys nws wc sz)) := by
  intro a U g mk q
  obtain ⟨q0, ⟨q1, qP, qK, qD, qN⟩, qE⟩ := q
  exact ⟨q0, ⟨q1, qP, va_K.moved (u := U) (U := U.calling g mk a) (Vm.Alike.refl U.vm) qK, qD, NWs.same (s := U) (U := U.calling g mk a) rfl qN⟩, EX.same (U := U) (V := U.calling g mk a) rfl rfl qE⟩
def XEnd (D : va_G) (cl : List vw_C) (A : Nat → Prop) (E : String) {S : Type} (wn : S → va_W) (E' : String) (u : S) (t : State) : Prop := E' = E ∧ CEnd D cl A wn u t
def Cx {S : Type} (l : Launch) (y : MethodName) (wy : List Cond) (rm : Room) (D : va_G) (cl : List vw_C) (tys : List (ClassId × FieldType)) (nws : List Cond) (As : List Value) (wc : va_W) (mc ms : Nat) (E : String) (post : S → Prop) (wn : S → va_W) : Prop :=
  ∀ sz, vx_Met l y wy rm (va_Pc As (XPre D cl tys nws wc sz)) (fun _ _ _ _ => False) (vx_X post (XEnd D cl (va_A wc sz) E wn) (va_A wc sz)) mc ms (va_A wc sz)
/-- an exception of class E in flight over the frame at pc -/
def JX (p : Program) (l : Launch) (e : Env) (R : Room) (s : State) (m : MethodId) (args : Array Value) (below : List Frame) (meth : Method) (c : Code) (D : va_G) (cl : List vw_C) (A : Nat → Prop) (H0 : Heap) (nL cells slots : Nat) (Q : State → Prop) (ws : va_W) (lv : List (Nat × Value)) (pc : Nat) (E : String) : Prop :=
  ∀ (H : Heap) (locs : List Loc) (ls : Array Slot) (rest : List Value) (q : Addr) (ce : Cell), va_P D cl ws H → va_D A ws → va_S A H0 H locs → lv_has ls nL lv → H[q]? = some ce → ce.vm = .none → s.vm.findClass E = some ce.cls → vx_W p l e R s m args below meth c H locs cells slots Q (F0 m pc ls rest) q
theorem jx_ws {E : String} (is : List Nat) (hn : va_nd is = true) (hs : is.map (fun i => ws[i]?) = ws'.map some) (k : JX p l e R s m args below meth c D cl A H0 nL cells slots Q ws' lv pc E) : JX p l e R s m args below meth c D cl A H0 nL cells slots Q ws lv pc E :=
  fun H locs ls rest q ce hP hD hS h => k H locs ls rest q ce (hP.sub is (sub_of hs)) (hD.sub is hn hs) hS h
def ThrH (p : Program) (l : Launch) (e : Env) (R : Room) (s : State) (m : MethodId) (args : Array Value) (below : List Frame) (meth : Method) (c : Code) (D : va_G) (cl : List vw_C) (A : Nat → Prop) (nL : Nat) (Q : State → Prop) (cc : ByteArray) (Ts : List Cond) (own : String) (mc ms : Nat) (E : String) {S : Type} (post : S → Prop) (wn : S → va_W) : Prop :=
  ∀ (ws : va_W) (lv : List (Nat × Value)) (pc cells slots : Nat) (st : List Value) (ik is ic : Nat) (text : String) (names : List String) (u : S), decode cc pc = .ok (.new ik, 3) → decode cc (pc + 3) = .ok (.dup, 1) → decode cc (pc + 4) = .ok (.ldc is, 2) → decode cc (pc + 6) = .ok (.invokespecial ic, 3) → decode cc (pc + 9) = .ok (.athrow, 1) →
    Bundle.fit E = true → (∀ n ∈ names, Bundle.fit n = true) → Cond.classLink own ik E ∈ Ts → Cond.initialized E ∈ Ts → (∃ z, vk_R own is text z s) → (∀ w ∈ vx_atS own ic E names, w.before args s = true) → (∀ w ∈ Cond.classLink own ik E :: Cond.initialized E :: vx_atS own ic E names, vx_ot w = true) →
    names.length + 3 < R.frames → (st.map fun v => v.category).sum + (13 * (names.length + 1) + 43) ≤ R.locals → cells + 1 ≤ R.cells → slots + 6 ≤ R.slots → cells + 1 ≤ mc → slots + 6 ≤ ms → ws = wn u → post u → J p l e R s m args below meth c D cl A s.heap nL cells slots Q ws lv pc st
def OutH (p : Program) (l : Launch) (e : Env) (R : Room) (s : State) (m : MethodId) (args : Array Value) (below : List Frame) (meth : Method) (c : Code) (D : va_G) (cl : List vw_C) (A : Nat → Prop) (nL : Nat) (Q : State → Prop) (mc ms : Nat) (E : String) {S : Type} (post : S → Prop) (wn : S → va_W) : Prop :=
  ∀ (ws : va_W) (lv : List (Nat × Value)) (pc cells slots : Nat) (u : S), cells ≤ mc → slots ≤ ms → ws = wn u → post u → JX p l e R s m args below meth c D cl A s.heap nL cells slots Q ws lv pc E
section MkX
variable {S : Type} {y : MethodName} {wy wy' : List Cond} {rm : Room} {nws : List Cond} {As : List Value} {wc : va_W} {mc ms : Nat} {ret : Option FieldType} {E : String}
theorem Cx.of {post : S → Prop} {wn : S → va_W} (hst : l.stackTraces = false) (hy : plainName y.cls = true) (hw : wy = Cond.code y cc nL ret :: wy') (hlen : (lg_sl As).length ≤ nL) (hlv : lv_args 0 As = lv)
    (body : ∀ (p : Program) (e : Env) (s : State) (m : MethodId) (args : Array Value) (below : List Frame) (meth : Method) (c : Code) (A : Nat → Prop) (Q : State → Prop), CallFix p m c cc nL s args wy y.cls → va_K D cl tys s → NWs nws s → EX A s s.heap → (∀ q, s.heap.size ≤ q → A q) →
      ThrH p l e rm s m args below meth c D cl A nL Q cc wy y.cls mc ms E post wn → OutH p l e rm s m args below meth c D cl A nL Q mc ms E post wn → J p l e rm s m args below meth c D cl A s.heap nL 0 0 Q wc lv 0 []) : Cx l y wy rm D cl tys nws As wc mc ms E post wn := by
  intro sz
  refine vx_ofW (cc := cc) (maxL := nL) (ret := ret) hy hw ?_
  intro p e s m args below meth c s₁ B hml ht hv
  obtain ⟨rfl, ⟨hsz, hP, hK, hD0, hN⟩, hE⟩ := hv
  subst hsz
  have h := lv_entry As (n := nL) hlen
  rw [lg_entry_eq]
  rw [hlv] at h
  have F : CallFix p m c cc nL s As.toArray wy y.cls := ⟨B.exec, B.bytes, hml, findClass_of_methodNamed B.named, atoms_spec (ws := wy) B.pre⟩
  have hlocks := B.notSynchronized
  refine body p e s m As.toArray below meth c (va_A wc s.heap.size) _ F hK hN hE (fun q h => Or.inr h) ?_ ?_ s.heap [] _ hP (hD0.self (sz := s.heap.size)) va_S.rf h
  · intro ws lv pc cells slots st ik is ic text names u d0 d3 d4 d6 d9 hfit hnames hk hini hstr hat hgood hRf hRl hRc hRs hc hs hws hpost H locs ls hP hD hS hl
    subst hws
    obtain ⟨z, hz⟩ := hstr
    refine vx_throwS F.1 F.2.1 hst F.2.2.2.1 hfit hnames (F.2.2.2.2 _ hk) (F.2.2.2.2 _ hini) hz hat hgood hE.1 hE.2.1 hS (hl.1.trans F.2.2.1.symm) d0 d3 d4 d6 d9 (fun x hx => (ht x hx).elim) hRf hRl hRc hRs hlocks (fun t ha h1 h2 => ?_) hS.2.2 hc hs
    exact ⟨u, hpost, ⟨rfl, hP.kept (fun k q hk => h2 q.1 (hP k q hk).lt), hD⟩, Nat.le_trans hS.1 h1, fun q hq hn => (h2 q (Nat.lt_of_lt_of_le hq hS.1)).trans (hS.2.1 q hq hn)⟩
  · intro ws lv pc cells slots u hc hs hws hpost H locs ls rest q ce hP hD hS hl hce hcv hcl
    subst hws
    exact vx_out (fun x hx => (ht x hx).elim) hlocks hce hcv hcl (fun t ht ha => ⟨u, hpost, ⟨rfl, by rw [ht]; exact hP, hD⟩, hS.F ht⟩) hS.2.2 hc hs
theorem j_goX {post : S → Prop} {wn : S → va_W} {wr : va_W} {st0 : List Value} {a : Array Value} (hA : ∀ q, s.heap.size ≤ q → A q) (isC isR : List Nat) (hC : isC.map (fun i => ws[i]?) = wc.map some) (hR : isR.map (fun i => ws[i]?) = wr.map some) (hn : va_nd isR = true) (hdis : ∀ i ∈ isR, i ∉ isC)
    (run : ∀ (H : Heap) (locs : List Loc) (ls : Array Slot), va_P D cl ws H → va_D A ws → va_S A s.heap H locs → lv_has ls nL lv → vx_Run p l e R s m args below meth c H locs cells slots mc ms (F0 m pc ls st0) st ((fun _ _ _ _ => False : Array Value → State → Outcome → State → Prop) a) (vx_X post (XEnd D cl (va_A wc H.size) E wn) (va_A wc H.size)) (va_A wc H.size))
    (k : ∀ (u : S), post u → JX p l e R s m args below meth c D cl A s.heap nL (cells + mc) (slots + ms) Q (wr ++ wn u) lv pc E) : J p l e R s m args below meth c D cl A s.heap nL cells slots Q ws lv pc st0 := by
  intro H locs ls hP hD hS hl
  have hFc := va_free hD hS hA isC hC
  intro T hT X
  rcases run H locs ls hP hD hS hl T hT X with ⟨v, st₀, t, T', L, h0, X', hL, e1, e2, hf, st⟩ | ⟨q, st₀, t, T', L, E', ce, h0, X', hL, e1, e2, ⟨u, hp, ⟨hE', hP1, hD1⟩, hF⟩, hce, hcv, hcl, st⟩
  · exact hf.elim
  · subst hE'
    obtain ⟨k1, k2, k3⟩ := vx_keep h0 e1 hS (fun q _ h => hFc q h) hFc hL hF
    rw [← e1] at hP1
    obtain ⟨hP2, hD2⟩ := va_join hP hD isC isR hC hR hn hdis k2 hFc hP1 hD1
    obtain ⟨t2, a1, b1⟩ := k u hp T'.heap (locs ++ L) ls _ q ce hP2 hD2 k3 hl (by rw [e1]; exact hce) hcv hcl T' rfl X'
    exact ⟨t2, st.trans a1, b1⟩
theorem pre_SX {H : Heap} {locs : List Loc} (hK : va_K D cl tys s) (hN : NWs nws s) (hE : EX A s s.heap) (hA : ∀ q, s.heap.size ≤ q → A q) (hP : va_P D cl ws H) (hD : va_D A ws) (hS : va_S A s.heap H locs) (isC : List Nat) (hC : isC.map (fun i => ws[i]?) = wc.map some) (hn : va_nd isC = true) : PreS s H (va_Pc As (XPre D cl tys nws wc H.size)) As :=
  ⟨XPre.blind, fun U hU hW => ⟨rfl, ⟨by rw [hU], by rw [hU]; exact hP.sub isC (sub_of hC), va_K.moved hW.alike hK, (hD.sub isC hn hC).weaken (fun _ _ _ _ => trivial), hN.warm hW⟩, hE.call hS (va_free hD hS hA isC hC) hU hW⟩⟩
theorem pre_VX {H : Heap} {locs : List Loc} {b : Nat} {As1 : List Value} (hAs : As = .ref b :: As1) (hK : va_K D cl tys s) (hN : NWs nws s) (hE : EX A s s.heap) (hA : ∀ q, s.heap.size ≤ q → A q) (hP : va_P D cl ws H) (hD : va_D A ws) (hS : va_S A s.heap H locs) (isC : List Nat) (hC : isC.map (fun i => ws[i]?) = wc.map some) (hn : va_nd isC = true) (q0 : Nat) {ci : Nat} {fs : List Value} (he : ws[q0]? = some (b, .inr (ci, fs))) {C : String} {T : u_T} {N : Nat} (hc : cl[ci]? = some (C, T, N)) : PreV s H C b (va_Pc As (XPre D cl tys nws wc H.size)) As1 := by
  subst hAs
  exact ⟨XPre.blind, va_recv hK hP hc he, fun U hU hW => ⟨rfl, ⟨by rw [hU], by rw [hU]; exact hP.sub isC (sub_of hC), va_K.moved hW.alike hK, (hD.sub isC hn hC).weaken (fun _ _ _ _ => trivial), hN.warm hW⟩, hE.call hS (va_free hD hS hA isC hC) hU hW⟩⟩
end MkX
end EXL
