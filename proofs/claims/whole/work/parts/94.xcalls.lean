/-! Methods that return or throw. -/
def xcC : List String := ["java/lang/IllegalArgumentException", "java/lang/IllegalStateException", "java/lang/IndexOutOfBoundsException"]
abbrev xcN : List String := ["java/lang/RuntimeException", "java/lang/Exception"]
/-- what throws and handlers know of the three classes -/
def xcD : List MethodName := [Bundle.initS "java/lang/RuntimeException", Bundle.initS "java/lang/Exception", Bundle.initS Bundle.tN]
def xcF (U : State) : Prop := ((∀ q ∈ xcC, va_Nw (.castable q q) U) ∧ ∀ q ∈ xcC, ∀ r ∈ xcC, q ≠ r → va_Nc q r U) ∧ ∀ x ∈ xcD, va_Nw (.declares x) U
theorem xcF.warm {s U : State} (hW : s.WarmedH U.vm) (h : xcF s) : xcF U := ⟨⟨fun q hq => va_Nw.warmC hW (h.1.1 q hq), fun q hq r hr e => va_Nc.moved hW.alike (h.1.2 q hq r hr e)⟩, fun x hx => va_Nw.warmD hW (h.2 x hx)⟩
theorem xcF.same {s U : State} (hv : s.vm = U.vm) (h : xcF s) : xcF U := ⟨⟨fun q hq => va_Nw.same rfl hv (h.1.1 q hq), fun q hq r hr e => va_Nc.moved (by rw [hv]; exact Vm.Alike.refl _) (h.1.2 q hq r hr e)⟩, fun x hx => va_Nw.same rfl hv (h.2 x hx)⟩
def xcU (G : sG) (b : Nat) (M : sM) (N : Nat) (U : State) : Prop := sU G b M N U ∧ xcF U
theorem xcU.blind {G : sG} {b : Nat} {M : sM} {N : Nat} {av : List Value} : FrameBlind (va_Pc av (xcU G b M N)) := by
  intro a U g mk h
  obtain ⟨h0, h1, h2⟩ := h
  obtain ⟨h3, h4⟩ := sU.blind a U g mk ⟨h0, h1⟩
  exact ⟨h3, h4, xcF.same (s := U) (U := U.calling g mk a) rfl h2⟩
theorem xcU.of {G : sG} {b : Nat} {M : sM} {N : Nat} {s : State} {H : Heap} {locs : List Loc} (hK : va_K G.1 vwCl (sTy G) s) (hV : sV G b M N s H locs) (hT : sT b s s.heap) (hF : xcF s) (U : State) (hU : U.heap = H) (hW : s.WarmedH U.vm) : xcU G b M N U := ⟨sU.of hK hV hT U hU hW, xcF.warm hW hF⟩
/-- the world where something was thrown -/
def xcX (G : sG) (b : Nat) (pX : String → sM → Nat → Prop) : String → State → State → Prop := vx_X (fun u : String × sM × Nat => pX u.1 u.2.1 u.2.2) (fun E u t => E = u.1 ∧ sH G b u.2.1 u.2.2 t.heap) (sA b)
abbrev xcQi (b : Nat) (G : sG) (post : Int → sM → Nat → Prop) : Array Value → State → Outcome → State → Prop := va_Qi (fun r (u : sM × Nat) => ∃ z, r = sI z ∧ post z u.1 u.2) (fun u t => sH G b u.1 u.2 t.heap) (sA b)
abbrev xcQl (b : Nat) (G : sG) (post : Int → sM → Nat → Prop) : Array Value → State → Outcome → State → Prop := va_Ql (fun r (u : sM × Nat) => ∃ z, r = sL z ∧ post z u.1 u.2) (fun u t => sH G b u.1 u.2 t.heap) (sA b)
abbrev xcQv (b : Nat) (G : sG) (post : sM → Nat → Prop) : Array Value → State → Outcome → State → Prop := va_Qv (fun (u : sM × Nat) => post u.1 u.2) (fun u t => sH G b u.1 u.2 t.heap) (sA b)
def xcI (l : Launch) (y : MethodName) (ws : List Cond) (rm : Room) (G : sG) (b : Nat) (M : sM) (N : Nat) (av : List Value) (post : Int → sM → Nat → Prop) (pX : String → sM → Nat → Prop) : Prop :=
  vx_Met l y ws rm (va_Pc av (xcU G b M N)) (xcQi b G post) (xcX G b pX) rm.cells rm.slots (sA b)
def xcL (l : Launch) (y : MethodName) (ws : List Cond) (rm : Room) (G : sG) (b : Nat) (M : sM) (N : Nat) (av : List Value) (post : Int → sM → Nat → Prop) (pX : String → sM → Nat → Prop) : Prop :=
  vx_Met l y ws rm (va_Pc av (xcU G b M N)) (xcQl b G post) (xcX G b pX) rm.cells rm.slots (sA b)
def xcV (l : Launch) (y : MethodName) (ws : List Cond) (rm : Room) (G : sG) (b : Nat) (M : sM) (N : Nat) (av : List Value) (post : sM → Nat → Prop) (pX : String → sM → Nat → Prop) : Prop :=
  vx_Met l y ws rm (va_Pc av (xcU G b M N)) (xcQv b G post) (xcX G b pX) rm.cells rm.slots (sA b)
section XE
variable {l : Launch} {y : MethodName} {ws ws' : List Cond} {rm : Room} {G : sG} {b : Nat} {M : sM} {N : Nat} {av : List Value}
theorem xcE.of {Qc : Array Value → State → Outcome → State → Prop} {XC : String → State → State → Prop} {cc : ByteArray} {nL : Nat} {ret : Option FieldType} (hy : plainName y.cls = true) (hw : ws = Cond.code y cc nL ret :: ws') (hL : (lg_sl av).length ≤ nL)
    (body : ∀ (p : Program) (e : Env) (s : State) (m : MethodId) (args : Array Value) (below : List Frame) (meth : Method) (c : Code) (ls : Array Slot) (Q : State → Prop), Q = vx_MQ below Qc XC args s rm.cells rm.slots (sA b) → sE p l e rm s m args below meth c cc nL ws y.cls y.name ret G b M N → xcF s → (∀ x ∈ c.exceptionTable.toList, False) → lv_has ls nL (lv_args 0 av) → W p l e rm s m args below meth c s.heap [] 0 0 Q (F0 m 0 ls [])) :
    vx_Met l y ws rm (va_Pc av (xcU G b M N)) Qc XC rm.cells rm.slots (sA b) := by
  refine vx_ofW (cc := cc) (maxL := nL) (ret := ret) hy hw ?_
  intro p e s m args below meth c s₁ B hml hxt hv
  obtain ⟨rfl, ⟨hH, hbN, hK, hT⟩, hF⟩ := hv
  have hl := lv_entry av (n := nL) hL
  rw [lg_entry_eq]
  exact body p e s m av.toArray below meth c _ _ rfl ⟨⟨B.exec, B.bytes, hml, findClass_of_methodNamed B.named, atoms_spec (ws := ws) B.pre⟩, B.returns, B.notSynchronized, (name_of_methodNamed B.named B.method).1, hK, hT, hH, va_S.rf, hH.1 ▸ hbN⟩ hF hxt hl
theorem xcE.ofI {post : Int → sM → Nat → Prop} {pX : String → sM → Nat → Prop} {cc : ByteArray} {nL : Nat} {ret : Option FieldType} (hy : plainName y.cls = true) (hw : ws = Cond.code y cc nL ret :: ws') (hL : (lg_sl av).length ≤ nL)
    (body : ∀ (p : Program) (e : Env) (s : State) (m : MethodId) (args : Array Value) (below : List Frame) (meth : Method) (c : Code) (ls : Array Slot) (Q : State → Prop), Q = vx_MQ below (xcQi b G post) (xcX G b pX) args s rm.cells rm.slots (sA b) → sE p l e rm s m args below meth c cc nL ws y.cls y.name ret G b M N → xcF s → (∀ x ∈ c.exceptionTable.toList, False) → lv_has ls nL (lv_args 0 av) → W p l e rm s m args below meth c s.heap [] 0 0 Q (F0 m 0 ls [])) :
    xcI l y ws rm G b M N av post pX := xcE.of hy hw hL body
theorem xcE.ofL {post : Int → sM → Nat → Prop} {pX : String → sM → Nat → Prop} {cc : ByteArray} {nL : Nat} {ret : Option FieldType} (hy : plainName y.cls = true) (hw : ws = Cond.code y cc nL ret :: ws') (hL : (lg_sl av).length ≤ nL)
    (body : ∀ (p : Program) (e : Env) (s : State) (m : MethodId) (args : Array Value) (below : List Frame) (meth : Method) (c : Code) (ls : Array Slot) (Q : State → Prop), Q = vx_MQ below (xcQl b G post) (xcX G b pX) args s rm.cells rm.slots (sA b) → sE p l e rm s m args below meth c cc nL ws y.cls y.name ret G b M N → xcF s → (∀ x ∈ c.exceptionTable.toList, False) → lv_has ls nL (lv_args 0 av) → W p l e rm s m args below meth c s.heap [] 0 0 Q (F0 m 0 ls [])) :
    xcL l y ws rm G b M N av post pX := xcE.of hy hw hL body
theorem xcE.ofV {post : sM → Nat → Prop} {pX : String → sM → Nat → Prop} {cc : ByteArray} {nL : Nat} {ret : Option FieldType} (hy : plainName y.cls = true) (hw : ws = Cond.code y cc nL ret :: ws') (hL : (lg_sl av).length ≤ nL)
    (body : ∀ (p : Program) (e : Env) (s : State) (m : MethodId) (args : Array Value) (below : List Frame) (meth : Method) (c : Code) (ls : Array Slot) (Q : State → Prop), Q = vx_MQ below (xcQv b G post) (xcX G b pX) args s rm.cells rm.slots (sA b) → sE p l e rm s m args below meth c cc nL ws y.cls y.name ret G b M N → xcF s → (∀ x ∈ c.exceptionTable.toList, False) → lv_has ls nL (lv_args 0 av) → W p l e rm s m args below meth c s.heap [] 0 0 Q (F0 m 0 ls [])) :
    xcV l y ws rm G b M N av post pX := xcE.of hy hw hL body
end XE
section XR
variable {p : Program} {l : Launch} {e : Env} {R : Room} {s : State} {m : MethodId} {args : Array Value} {below : List Frame} {meth : Method} {c : Code} {H : Heap} {locs : List Loc} {cells slots : Nat} {Q : State → Prop}
variable {cc : ByteArray} {nL : Nat} {Ts : List Cond} {own nm : String} {pc : Nat} {ls : Array Slot} {rest : List Value} {ret : Option FieldType}
variable {G : sG} {b : Nat} {M M0 : sM} {N N0 : Nat}
/-! ends -/
theorem xr_i (E : sE p l e R s m args below meth c cc nL Ts own nm (some .int) G b M0 N0) {post : Int → sM → Nat → Prop} {pX : String → sM → Nat → Prop} {z : Int} {mc ms : Nat} (hQ : Q = vx_MQ below (xcQi b G post) (xcX G b pX) args s mc ms (sA b)) (hdg : decode cc pc = .ok (.ireturn, 1)) (hc : cells ≤ mc ∧ slots ≤ ms) (hV : sV G b M N s H locs) (hp : post z M N) :
    W p l e R s m args below meth c H locs cells slots Q (F0 m pc ls [.int (sI z)]) := by
  rw [hQ]
  exact vx_ret (sr_i E rfl hdg hc hV hp)
theorem xr_z (E : sE p l e R s m args below meth c cc nL Ts own nm (some .boolean) G b M0 N0) {post : Int → sM → Nat → Prop} {pX : String → sM → Nat → Prop} {z : Int} {mc ms : Nat} (hQ : Q = vx_MQ below (xcQi b G post) (xcX G b pX) args s mc ms (sA b)) (hz : z = 0 ∨ z = 1) (hdg : decode cc pc = .ok (.ireturn, 1)) (hc : cells ≤ mc ∧ slots ≤ ms) (hV : sV G b M N s H locs) (hp : post z M N) :
    W p l e R s m args below meth c H locs cells slots Q (F0 m pc ls [.int (sI z)]) := by
  rw [hQ]
  exact vx_ret (sr_z E rfl hz hdg hc hV hp)
theorem xr_c (E : sE p l e R s m args below meth c cc nL Ts own nm (some .char) G b M0 N0) {post : Int → sM → Nat → Prop} {pX : String → sM → Nat → Prop} {z : Int} {mc ms : Nat} (hQ : Q = vx_MQ below (xcQi b G post) (xcX G b pX) args s mc ms (sA b)) (hz : 0 ≤ z ∧ z < 65536) (hdg : decode cc pc = .ok (.ireturn, 1)) (hc : cells ≤ mc ∧ slots ≤ ms) (hV : sV G b M N s H locs) (hp : post z M N) :
    W p l e R s m args below meth c H locs cells slots Q (F0 m pc ls [.int (sI z)]) := by
  rw [hQ]
  exact vx_ret (sr_c E rfl hz hdg hc hV hp)
theorem xr_l (E : sE p l e R s m args below meth c cc nL Ts own nm (some .long) G b M0 N0) {post : Int → sM → Nat → Prop} {pX : String → sM → Nat → Prop} {z : Int} {mc ms : Nat} (hQ : Q = vx_MQ below (xcQl b G post) (xcX G b pX) args s mc ms (sA b)) (hdg : decode cc pc = .ok (.lreturn, 1)) (hc : cells ≤ mc ∧ slots ≤ ms) (hV : sV G b M N s H locs) (hp : post z M N) :
    W p l e R s m args below meth c H locs cells slots Q (F0 m pc ls [.long (sL z)]) := by
  rw [hQ]
  exact vx_ret (sr_l E rfl hdg hc hV hp)
theorem xr_v (E : sE p l e R s m args below meth c cc nL Ts own nm none G b M0 N0) {post : sM → Nat → Prop} {pX : String → sM → Nat → Prop} {mc ms : Nat} (hQ : Q = vx_MQ below (xcQv b G post) (xcX G b pX) args s mc ms (sA b)) (hdg : decode cc pc = .ok (.return_, 1)) (hc : cells ≤ mc ∧ slots ≤ ms) (hV : sV G b M N s H locs) (hp : post M N) :
    W p l e R s m args below meth c H locs cells slots Q (F0 m pc ls []) := by
  rw [hQ]
  exact vx_ret (sr_v E rfl hdg hc hV hp)
/-! throws -/
theorem xcX.of {pX : String → sM → Nat → Prop} (hV : sV G b M N s H locs) {t : State} {cls : String} (hz : H.size ≤ t.heap.size) (hk : ∀ q : Nat, q < H.size → t.heap[q]? = H[q]?) (hp : ∀ N1, N ≤ N1 → pX cls M N1) : xcX G b pX cls s t := by
  have hS1 : va_S (sA b) s.heap t.heap locs := ⟨Nat.le_trans hV.2.1.1 hz, fun q h1 h2 => (hk q (Nat.lt_of_lt_of_le h1 hV.2.1.1)).trans (hV.2.1.2.1 q h1 h2), hV.2.1.2.2⟩
  refine ⟨(cls, M, t.heap.size), hp _ (by rw [← hV.1.1]; exact hz), ⟨rfl, rfl, fun a x hx => ⟨(hV.1.2 a x hx).1, (hV.1.2 a x hx).2.kept (hk a ?_)⟩⟩, hS1.F rfl⟩
  rw [hV.1.1]
  exact (hV.1.lt hx).2
theorem xt_S (E : sE p l e R s m args below meth c cc nL Ts own nm ret G b M0 N0) (hF : xcF s) (hxt : ∀ x ∈ c.exceptionTable.toList, False) {Qc : Array Value → State → Outcome → State → Prop} {pX : String → sM → Nat → Prop} {mc ms : Nat} (hQ : Q = vx_MQ below Qc (xcX G b pX) args s mc ms (sA b)) (hl : l.stackTraces = false) {cls text : String} {ik is ic : Nat} (hcl : cls ∈ xcC)
    (hg : Bundle.fit cls = true ∧ (∀ n ∈ xcN, Bundle.fit n = true) ∧ (∀ w ∈ Cond.classLink own ik cls :: Cond.initialized cls :: vx_atS own ic cls xcN, vx_ot w = true) ∧ ∀ w ∈ (vx_atS own ic cls xcN).filter (fun w => !goodWord w), w ∈ Cond.castable cls cls :: xcD.map Cond.declares)
    (hk : Cond.classLink own ik cls ∈ Ts) (hini : Cond.initialized cls ∈ Ts) (hat : ∀ w ∈ (vx_atS own ic cls xcN).filter goodWord, w ∈ Ts) (hstr : (own, is, text) ∈ sStrs) (hsz : ls.size = nL)
    (d0 : decode cc pc = .ok (.new ik, 3)) (d3 : decode cc (pc + 3) = .ok (.dup, 1)) (d4 : decode cc (pc + 4) = .ok (.ldc is, 2)) (d7 : decode cc (pc + 6) = .ok (.invokespecial ic, 3)) (d10 : decode cc (pc + 9) = .ok (.athrow, 1))
    (hr : 5 < R.frames ∧ (rest.map fun v => v.category).sum + 82 ≤ R.locals ∧ cells + 1 ≤ R.cells ∧ slots + 6 ≤ R.slots) (hm : cells + 1 ≤ mc ∧ slots + 6 ≤ ms) (hV : sV G b M N s H locs) (hp : ∀ N1, N ≤ N1 → pX cls M N1) :
    W p l e R s m args below meth c H locs cells slots Q (F0 m pc ls rest) := by
  obtain ⟨sa, hsa⟩ := E.2.2.2.2.2.1.1.1 _ hstr
  rw [hQ]
  exact vx_throwS E.1.1 E.1.2.1 hl (names := xcN) E.1.2.2.2.1 hg.1 hg.2.1 (E.1.2.2.2.2 _ hk) (E.1.2.2.2.2 _ hini) hsa (vx_hat (fun w hw => E.1.2.2.2.2 w (hat w hw)) hg.2.2.2 (vx_c (va_Nw.use rfl (hF.1.1 cls hcl)) (fun w hw => by obtain ⟨x, hx, rfl⟩ := List.mem_map.mp hw; exact va_Nw.use rfl (hF.2 x hx)))) hg.2.2.1 E.2.2.2.2.2.1.2.1 E.2.2.2.2.2.1.2.2.1 hV.2.1 (by rw [E.1.2.2.1]; exact hsz) d0 d3 d4 d7 d10 (fun x hx => (hxt x hx).elim) hr.1 hr.2.1 hr.2.2.1 hr.2.2.2 E.2.2.1 (fun t hA hz hk => xcX.of hV hz hk hp) hV.2.1.2.2 hm.1 hm.2
theorem xt_W (E : sE p l e R s m args below meth c cc nL Ts own nm ret G b M0 N0) (hF : xcF s) (hxt : ∀ x ∈ c.exceptionTable.toList, False) {Qc : Array Value → State → Outcome → State → Prop} {pX : String → sM → Nat → Prop} {mc ms : Nat} (hQ : Q = vx_MQ below Qc (xcX G b pX) args s mc ms (sA b)) (hl : l.stackTraces = false) {cls text : String} {ik is ic : Nat} (hcl : cls ∈ xcC)
    (hg : Bundle.fit cls = true ∧ (∀ n ∈ xcN, Bundle.fit n = true) ∧ (∀ w ∈ Cond.classLink own ik cls :: Cond.initialized cls :: vx_atS own ic cls xcN, vx_ot w = true) ∧ ∀ w ∈ (vx_atS own ic cls xcN).filter (fun w => !goodWord w), w ∈ Cond.castable cls cls :: xcD.map Cond.declares)
    (hk : Cond.classLink own ik cls ∈ Ts) (hini : Cond.initialized cls ∈ Ts) (hat : ∀ w ∈ (vx_atS own ic cls xcN).filter goodWord, w ∈ Ts) (hstr : (own, is, text) ∈ sStrs) (hsz : ls.size = nL)
    (d0 : decode cc pc = .ok (.new ik, 3)) (d3 : decode cc (pc + 3) = .ok (.dup, 1)) (d4 : decode cc (pc + 4) = .ok (.ldc_w is, 3)) (d7 : decode cc (pc + 7) = .ok (.invokespecial ic, 3)) (d10 : decode cc (pc + 10) = .ok (.athrow, 1))
    (hr : 5 < R.frames ∧ (rest.map fun v => v.category).sum + 82 ≤ R.locals ∧ cells + 1 ≤ R.cells ∧ slots + 6 ≤ R.slots) (hm : cells + 1 ≤ mc ∧ slots + 6 ≤ ms) (hV : sV G b M N s H locs) (hp : ∀ N1, N ≤ N1 → pX cls M N1) :
    W p l e R s m args below meth c H locs cells slots Q (F0 m pc ls rest) := by
  obtain ⟨sa, hsa⟩ := E.2.2.2.2.2.1.1.1 _ hstr
  rw [hQ]
  exact vx_throwSW E.1.1 E.1.2.1 hl (names := xcN) E.1.2.2.2.1 hg.1 hg.2.1 (E.1.2.2.2.2 _ hk) (E.1.2.2.2.2 _ hini) hsa (vx_hat (fun w hw => E.1.2.2.2.2 w (hat w hw)) hg.2.2.2 (vx_c (va_Nw.use rfl (hF.1.1 cls hcl)) (fun w hw => by obtain ⟨x, hx, rfl⟩ := List.mem_map.mp hw; exact va_Nw.use rfl (hF.2 x hx)))) hg.2.2.1 E.2.2.2.2.2.1.2.1 E.2.2.2.2.2.1.2.2.1 hV.2.1 (by rw [E.1.2.2.1]; exact hsz) d0 d3 d4 d7 d10 (fun x hx => (hxt x hx).elim) hr.1 hr.2.1 hr.2.2.1 hr.2.2.2 E.2.2.1 (fun t hA hz hk => xcX.of hV hz hk hp) hV.2.1.2.2 hm.1 hm.2
/-! calls -/
variable {y : MethodName} {bytes : ByteArray} {maxL n index : Nat} {yret : Option FieldType} {ws : List Cond} {rm : Room} {C : String} {a : Nat} {As stk : List Value}
theorem xk_out (E : sE p l e R s m args below meth c cc nL Ts own nm ret G b M0 N0) (hxt : ∀ x ∈ c.exceptionTable.toList, False) {Qc : Array Value → State → Outcome → State → Prop} {pX pY : String → sM → Nat → Prop} {mc ms : Nat} (hQ : Q = vx_MQ below Qc (xcX G b pX) args s mc ms (sA b)) (kx : ∀ E9 M1 N1, pY E9 M1 N1 → pX E9 M1 N1) {E9 : String} {ce : Cell} {q9 : Addr} {u : String × sM × Nat} {t : State} {H1 : Heap} {locs1 : List Loc} (ht : t.heap = H1) (hp : pY u.1 u.2.1 u.2.2) (hB : E9 = u.1 ∧ sH G b u.2.1 u.2.2 t.heap) (hS1 : va_S (sA b) s.heap H1 locs1) (hce : H1[q9]? = some ce) (hcv : ce.vm = .none) (hcl : s.vm.findClass E9 = some ce.cls) (hm : cells ≤ mc ∧ slots ≤ ms) : vx_W p l e R s m args below meth c H1 locs1 cells slots Q (F0 m pc ls rest) q9 := by
  rw [hQ]
  refine vx_out (fun x hx => (hxt x hx).elim) E.2.2.1 hce hcv hcl (fun t2 ht2 hA2 => ⟨u, kx _ _ _ hp, ⟨hB.1, ?_⟩, hS1.F ht2⟩) hS1.2.2 hm.1 hm.2
  rw [ht2, ← ht]
  exact hB.2
theorem xk_Vv (E : sE p l e R s m args below meth c cc nL Ts own nm ret G b M0 N0) (hF : xcF s) (hxt : ∀ x ∈ c.exceptionTable.toList, False) {Qc : Array Value → State → Outcome → State → Prop} {pX pY : String → sM → Nat → Prop} {mc ms : Nat} (hQ : Q = vx_MQ below Qc (xcX G b pX) args s mc ms (sA b)) (hV : sV G b M N s H locs) {post : sM → Nat → Prop} (hM : xcV l y ws rm G b M N (.ref a :: As) post pY) (cw : CallW R s args own C index y bytes maxL yret ws rm rm.cells rm.slots n) {ci k : Nat} {T : u_T} {fs : List Value} (he : M a = some (sObj ci fs)) (hc : vwCl[ci]? = some (C, T, k)) (hst : stk = As.reverse ++ .ref a :: rest) (hn : As.length = n) (hsz : ls.size = nL) (hroom : (rest.map fun v => v.category).sum ≤ 8) (hdg : decode cc pc = .ok (.invokevirtual index, 3)) {c1 s1 : Nat} (hf : (cells + rm.cells = c1 ∧ slots + rm.slots = s1) ∧ c1 ≤ R.cells ∧ s1 ≤ R.slots) (hm : c1 ≤ mc ∧ s1 ≤ ms) (kx : ∀ E9 M1 N1, pY E9 M1 N1 → pX E9 M1 N1)
    (kk : ∀ (M1 : sM) (N1 : Nat) (H1 : Heap) (locs1 : List Loc), post M1 N1 → sV G b M1 N1 s H1 locs1 → W p l e R s m args below meth c H1 locs1 c1 s1 Q (F0 m (pc + 3) ls rest)) : W p l e R s m args below meth c H locs cells slots Q (F0 m pc ls stk) :=
  vx_callv (vx_runV E.1 hM cw ⟨xcU.blind, sH.recv E.2.2.2.2.1 hV.1 hc he, fun U hU hW => ⟨rfl, xcU.of E.2.2.2.2.1 hV E.2.2.2.2.2.1 hF U hU hW⟩⟩ rfl hn hsz hst (lv_room hroom) hdg (by rw [hf.1.1, hf.1.2]; exact hf.2)) hV.2.1 (fun q _ h => h) (fun q h => h) (fun q _ h => h)
    (fun E9 ce q9 u t H1 locs1 ht hvm hp hB hz hk hS1 hce hcv hcl => xk_out E hxt hQ kx ht hp hB hS1 hce hcv hcl (by rw [hf.1.1, hf.1.2]; exact hm))
    (fun u t H1 locs1 ht hvm hp hB hz hk hS1 => W.cs hf.1.1 hf.1.2 (kk u.1 u.2 H1 locs1 hp ⟨ht ▸ hB, hS1, hV.2.2⟩))
theorem xk_Sv (E : sE p l e R s m args below meth c cc nL Ts own nm ret G b M0 N0) (hF : xcF s) (hxt : ∀ x ∈ c.exceptionTable.toList, False) {Qc : Array Value → State → Outcome → State → Prop} {pX pY : String → sM → Nat → Prop} {mc ms : Nat} (hQ : Q = vx_MQ below Qc (xcX G b pX) args s mc ms (sA b)) (hV : sV G b M N s H locs) {post : sM → Nat → Prop} (hM : xcV l y ws rm G b M N As post pY) (cw : CallB R s args own index y bytes maxL yret ws rm rm.cells rm.slots n ∧ (Cond.static y).before args s = true) (hst : stk = As.reverse ++ rest) (hn : As.length = n) (hsz : ls.size = nL) (hroom : (rest.map fun v => v.category).sum ≤ 8) (hdg : decode cc pc = .ok (.invokestatic index, 3)) {c1 s1 : Nat} (hf : (cells + rm.cells = c1 ∧ slots + rm.slots = s1) ∧ c1 ≤ R.cells ∧ s1 ≤ R.slots) (hm : c1 ≤ mc ∧ s1 ≤ ms) (kx : ∀ E9 M1 N1, pY E9 M1 N1 → pX E9 M1 N1)
    (kk : ∀ (M1 : sM) (N1 : Nat) (H1 : Heap) (locs1 : List Loc), post M1 N1 → sV G b M1 N1 s H1 locs1 → W p l e R s m args below meth c H1 locs1 c1 s1 Q (F0 m (pc + 3) ls rest)) : W p l e R s m args below meth c H locs cells slots Q (F0 m pc ls stk) :=
  vx_callv (vx_runS E.1 hM cw ⟨xcU.blind, fun U hU hW => ⟨rfl, xcU.of E.2.2.2.2.1 hV E.2.2.2.2.2.1 hF U hU hW⟩⟩ rfl hn hsz hst (lv_room hroom) hdg (by rw [hf.1.1, hf.1.2]; exact hf.2)) hV.2.1 (fun q _ h => h) (fun q h => h) (fun q _ h => h)
    (fun E9 ce q9 u t H1 locs1 ht hvm hp hB hz hk hS1 hce hcv hcl => xk_out E hxt hQ kx ht hp hB hS1 hce hcv hcl (by rw [hf.1.1, hf.1.2]; exact hm))
    (fun u t H1 locs1 ht hvm hp hB hz hk hS1 => W.cs hf.1.1 hf.1.2 (kk u.1 u.2 H1 locs1 hp ⟨ht ▸ hB, hS1, hV.2.2⟩))
end XR
theorem xg_IS : Bundle.fit "java/lang/IllegalStateException" = true ∧ (∀ n ∈ xcN, Bundle.fit n = true) ∧ (∀ w ∈ Cond.classLink RX10 80 "java/lang/IllegalStateException" :: Cond.initialized "java/lang/IllegalStateException" :: vx_atS RX10 84 "java/lang/IllegalStateException" xcN, vx_ot w = true) ∧ ∀ w ∈ (vx_atS RX10 84 "java/lang/IllegalStateException" xcN).filter (fun w => !goodWord w), w ∈ Cond.castable "java/lang/IllegalStateException" "java/lang/IllegalStateException" :: xcD.map Cond.declares := ⟨by decide +kernel, by decide +kernel, by decide +kernel, by decide +kernel⟩
theorem xg_IA : Bundle.fit "java/lang/IllegalArgumentException" = true ∧ (∀ n ∈ xcN, Bundle.fit n = true) ∧ (∀ w ∈ Cond.classLink RX10 113 "java/lang/IllegalArgumentException" :: Cond.initialized "java/lang/IllegalArgumentException" :: vx_atS RX10 117 "java/lang/IllegalArgumentException" xcN, vx_ot w = true) ∧ ∀ w ∈ (vx_atS RX10 117 "java/lang/IllegalArgumentException" xcN).filter (fun w => !goodWord w), w ∈ Cond.castable "java/lang/IllegalArgumentException" "java/lang/IllegalArgumentException" :: xcD.map Cond.declares := ⟨by decide +kernel, by decide +kernel, by decide +kernel, by decide +kernel⟩
theorem xg_IO : Bundle.fit "java/lang/IndexOutOfBoundsException" = true ∧ (∀ n ∈ xcN, Bundle.fit n = true) ∧ (∀ w ∈ Cond.classLink RX10 173 "java/lang/IndexOutOfBoundsException" :: Cond.initialized "java/lang/IndexOutOfBoundsException" :: vx_atS RX10 177 "java/lang/IndexOutOfBoundsException" xcN, vx_ot w = true) ∧ ∀ w ∈ (vx_atS RX10 177 "java/lang/IndexOutOfBoundsException" xcN).filter (fun w => !goodWord w), w ∈ Cond.castable "java/lang/IndexOutOfBoundsException" "java/lang/IndexOutOfBoundsException" :: xcD.map Cond.declares := ⟨by decide +kernel, by decide +kernel, by decide +kernel, by decide +kernel⟩
