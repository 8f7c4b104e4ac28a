/-! Answers that are doubles and floats; rows of States; the start of the class. -/
def cD (l : Launch) (y : MethodName) (ws : List Cond) (rm : Room) (G : sG) (b : Nat) (M : sM) (N : Nat) (av : List Value) (post : UInt64 → sM → Nat → Prop) : Prop :=
  Met l y ws rm (va_Pc av (sU G b M N)) (va_Qd (fun r (u : sM × Nat) => post r u.1 u.2) (fun u t => sH G b u.1 u.2 t.heap) (sA b)) rm.cells rm.slots (sA b)
def sQd (G : sG) (b : Nat) (below : List Frame) (post : UInt64 → sM → Nat → Prop) (args : Array Value) (s : State) (mc ms : Nat) : State → Prop := MQ below (va_Qd (fun r (u : sM × Nat) => post r u.1 u.2) (fun u t => sH G b u.1 u.2 t.heap) (sA b)) args s mc ms (sA b)
theorem sE.ofD {l : Launch} {y : MethodName} {ws ws' : List Cond} {rm : Room} {G : sG} {b : Nat} {M : sM} {N : Nat} {av : List Value} {post : UInt64 → sM → Nat → Prop} {cc : ByteArray} {nL : Nat} {ret : Option FieldType} (hy : plainName y.cls = true) (hw : ws = Cond.code y cc nL ret :: ws') (hL : (lg_sl av).length ≤ nL)
    (body : ∀ (p : Program) (e : Env) (s : State) (m : MethodId) (args : Array Value) (below : List Frame) (meth : Method) (c : Code) (ls : Array Slot) (Q : State → Prop), Q = sQd G b below post args s rm.cells rm.slots → sE p l e rm s m args below meth c cc nL ws y.cls y.name ret G b M N → lv_has ls nL (lv_args 0 av) → W p l e rm s m args below meth c s.heap [] 0 0 Q (F0 m 0 ls [])) :
    cD l y ws rm G b M N av post := sE.of hy hw hL body
def cF (l : Launch) (y : MethodName) (ws : List Cond) (rm : Room) (G : sG) (b : Nat) (M : sM) (N : Nat) (av : List Value) (post : UInt32 → sM → Nat → Prop) : Prop :=
  Met l y ws rm (va_Pc av (sU G b M N)) (va_Qf (fun r (u : sM × Nat) => post r u.1 u.2) (fun u t => sH G b u.1 u.2 t.heap) (sA b)) rm.cells rm.slots (sA b)
def sQf (G : sG) (b : Nat) (below : List Frame) (post : UInt32 → sM → Nat → Prop) (args : Array Value) (s : State) (mc ms : Nat) : State → Prop := MQ below (va_Qf (fun r (u : sM × Nat) => post r u.1 u.2) (fun u t => sH G b u.1 u.2 t.heap) (sA b)) args s mc ms (sA b)
theorem sE.ofF {l : Launch} {y : MethodName} {ws ws' : List Cond} {rm : Room} {G : sG} {b : Nat} {M : sM} {N : Nat} {av : List Value} {post : UInt32 → sM → Nat → Prop} {cc : ByteArray} {nL : Nat} {ret : Option FieldType} (hy : plainName y.cls = true) (hw : ws = Cond.code y cc nL ret :: ws') (hL : (lg_sl av).length ≤ nL)
    (body : ∀ (p : Program) (e : Env) (s : State) (m : MethodId) (args : Array Value) (below : List Frame) (meth : Method) (c : Code) (ls : Array Slot) (Q : State → Prop), Q = sQf G b below post args s rm.cells rm.slots → sE p l e rm s m args below meth c cc nL ws y.cls y.name ret G b M N → lv_has ls nL (lv_args 0 av) → W p l e rm s m args below meth c s.heap [] 0 0 Q (F0 m 0 ls [])) :
    cF l y ws rm G b M N av post := sE.of hy hw hL body
section SQ
variable {p : Program} {l : Launch} {e : Env} {R : Room} {s : State} {m : MethodId} {args : Array Value} {below : List Frame} {meth : Method} {c : Code} {H : Heap} {locs : List Loc} {cells slots : Nat} {Q : State → Prop}
variable {cc : ByteArray} {nL : Nat} {Ts : List Cond} {own nm : String} {pc : Nat} {ls : Array Slot} {rest : List Value} {ret : Option FieldType}
variable {G : sG} {b : Nat} {M M0 : sM} {N N0 : Nat}
theorem sr_d (E : sE p l e R s m args below meth c cc nL Ts own nm (some .double) G b M0 N0) {post : UInt64 → sM → Nat → Prop} {z : UInt64} {mc ms : Nat} (hQ : Q = sQd G b below post args s mc ms) (hdg : decode cc pc = .ok (.dreturn, 1)) (hc : cells ≤ mc ∧ slots ≤ ms) (hV : sV G b M N s H locs) (hp : post z M N) :
    W p l e R s m args below meth c H locs cells slots Q (F0 m pc ls [.double z]) := by
  rw [hQ]
  exact W.widen hc.1 hc.2 (W.dret E.1.1 E.1.2.1 E.2.1 (fun t ht hW => ⟨⟨_, (M, N), rfl, hp, by show sH G b M N t.heap; rw [ht]; exact hV.1⟩, hV.2.1.F ht⟩) hV.2.1.2.2 hdg (hlocks := E.2.2.1))
theorem sr_f (E : sE p l e R s m args below meth c cc nL Ts own nm (some .float) G b M0 N0) {post : UInt32 → sM → Nat → Prop} {z : UInt32} {mc ms : Nat} (hQ : Q = sQf G b below post args s mc ms) (hdg : decode cc pc = .ok (.freturn, 1)) (hc : cells ≤ mc ∧ slots ≤ ms) (hV : sV G b M N s H locs) (hp : post z M N) :
    W p l e R s m args below meth c H locs cells slots Q (F0 m pc ls [.float z]) := by
  rw [hQ]
  exact W.widen hc.1 hc.2 (W.fret E.1.1 E.1.2.1 E.2.1 (fun t ht hW => ⟨⟨_, (M, N), rfl, hp, by show sH G b M N t.heap; rw [ht]; exact hV.1⟩, hV.2.1.F ht⟩) hV.2.1.2.2 hdg (hlocks := E.2.2.1))
/-! rows of States -/
theorem sc_qld (S : CallFix p m c cc nL s args Ts own) (hK : va_K G.1 vwCl (sTy G) s) (hV : sV G b M N s H locs) {a n : Nat} {kf : Nat → Option Nat} (he : M a = some (sArS G n kf)) {i : Int} (hi : 0 ≤ i ∧ i < n ∧ (n : Int) ≤ 2147483647) (hdg : decode cc pc = .ok (.aaload, 1))
    (kk : W p l e R s m args below meth c H locs cells slots Q (F0 m (pc + 1) ls (va_rf (kf i.toNat) :: rest))) : W p l e R s m args below meth c H locs cells slots Q (F0 m pc ls (.int (sI i) :: .ref a :: rest)) := by
  refine va_aldq (D := G.1) (cl := vwCl) (ws := [(a, sArS G n kf)]) S.1 S.2.1 hK (fun i q hq => by
    have hz : i < 1 := (List.getElem?_eq_some_iff.mp hq).1
    rw [show i = 0 by omega] at hq
    cases hq
    exact (hV.1.2 a _ he).2) 0 2 rfl rfl (sI_in hi) hdg ?_
  rw [sI_clamp (by omega)]
  exact kk
theorem sc_qldR (S : CallFix p m c cc nL s args Ts own) (hK : va_K G.1 vwCl (sTy G) s) (hV : sV G b M N s H locs) {a n : Nat} {kf : Nat → Option Nat} (he : M a = some (sArS G n kf)) {i : Int} (hi : 0 ≤ i ∧ i < n ∧ (n : Int) ≤ 2147483647) {y : Nat} (hy : kf i.toNat = some y) (hdg : decode cc pc = .ok (.aaload, 1))
    (kk : W p l e R s m args below meth c H locs cells slots Q (F0 m (pc + 1) ls (.ref y :: rest))) : W p l e R s m args below meth c H locs cells slots Q (F0 m pc ls (.int (sI i) :: .ref a :: rest)) := sc_qld S hK hV he hi hdg (by rw [hy]; exact kk)
theorem sc_qldN (S : CallFix p m c cc nL s args Ts own) (hK : va_K G.1 vwCl (sTy G) s) (hV : sV G b M N s H locs) {a n : Nat} {kf : Nat → Option Nat} (he : M a = some (sArS G n kf)) {i : Int} (hi : 0 ≤ i ∧ i < n ∧ (n : Int) ≤ 2147483647) (hy : kf i.toNat = none) (hdg : decode cc pc = .ok (.aaload, 1))
    (kk : W p l e R s m args below meth c H locs cells slots Q (F0 m (pc + 1) ls (.null :: rest))) : W p l e R s m args below meth c H locs cells slots Q (F0 m pc ls (.int (sI i) :: .ref a :: rest)) := sc_qld S hK hV he hi hdg (by rw [hy]; exact kk)
theorem sc_qst (S : CallFix p m c cc nL s args Ts own) (hK : va_K G.1 vwCl (sTy G) s) (hV : sV G b M N s H locs) {a n : Nat} {kf : Nat → Option Nat} (he : M a = some (sArS G n kf)) {i : Int} (hi : 0 ≤ i ∧ i < n ∧ (n : Int) ≤ 2147483647) {v ci k : Nat} {fs : List Value} {T : u_T} (hv : M v = some (sObj ci fs)) (hc : vwCl[ci]? = some ("Stonecabinet$State", T, k)) (hdg : decode cc pc = .ok (.aastore, 1))
    (kk : ∀ (M1 : sM) (H1 : Heap) (locs1 : List Loc), M1 = va_up M a (some (sArS G n (va_up kf i.toNat (some v)))) → sV G b M1 N s H1 locs1 → W p l e R s m args below meth c H1 locs1 cells slots Q (F0 m (pc + 1) ls rest)) : W p l e R s m args below meth c H locs cells slots Q (F0 m pc ls (.ref v :: .int (sI i) :: .ref a :: rest)) := by
  have hcl : (sI i).toNatClampNeg = i.toNat := sI_clamp (by omega)
  have hin := sI_in hi
  have hba := (hV.1.2 a _ he).1
  obtain ⟨r', hr', cellV, g1, g2, g3, -⟩ := (hV.1.2 v _ hv).2
  have hr2 : r' = ("Stonecabinet$State", T, k) := Option.some.inj (hr'.symm.trans hc)
  subst hr2
  have hcls := (hK.1 ci _ hc).2
  obtain ⟨kA, comp, k1, k2, k3, -⟩ := (hK.2 2 (G.2.2.2.1, .object "Stonecabinet$State") rfl).2
  have hcomp : comp = G.1.1 ci := Option.some.inj (k3.symm.trans hcls.1)
  subst hcomp
  obtain ⟨kC, hkC, -⟩ := hcls.2
  refine W.aast S.1 S.2.1 (hV.1.2 a _ he).2 (fun q h => by cases h) (fun h => by cases h) k1 k2 rfl hkC ⟨fun q => hin (Or.inl q), by show _ < (arrV _ _ _).slots.size; rw [arrV_size]; exact Nat.not_le.mp fun q => hin (Or.inr q)⟩ g1 (fun q h => by rw [g3] at h; cases h) (by rw [g2]; exact hkC) (by rw [g2]; exact va_assign hcls) rfl rfl hdg fun H1 e z oq => ?_
  refine kk _ H1 _ rfl ⟨hV.1.put he ?_ z oq, hV.2.1.put z oq hba, hV.2.2⟩
  show H1[a]? = some (vp_cell _ _)
  rw [e]
  rw [vp_cell_q, vp_cell_q, arrV_store, hcl]
  congr 2
  funext q
  by_cases hq : q = i.toNat
  · subst hq
    simp [updV, va_up, va_rf]
  · simp [updV, va_up, hq]
theorem sc_newq (S : CallFix p m c cc nL s args Ts own) (hK : va_K G.1 vwCl (sTy G) s) (hV : sV G b M N s H locs) (hAO : va_AO "Stonecabinet$State" s) {index : Nat} (hclink : (Cond.classLink own index "Stonecabinet$State").before args s = true) {z : Int} {N0 : Nat} (hz : z = (N0 : Int) ∧ N0 ≤ 100000) (hR : cells + 1 ≤ R.cells ∧ slots + N0 ≤ R.slots) (hdg : decode cc pc = .ok (.anewarray index, 3))
    (kk : ∀ (M1 : sM) (H1 : Heap) (locs1 : List Loc), M1 = va_up M N (some (sArS G N0 (fun _ => none))) → sV G b M1 (N + 1) s H1 locs1 → W p l e R s m args below meth c H1 locs1 (cells + 1) (slots + N0) Q (F0 m (pc + 3) ls (.ref N :: rest))) : W p l e R s m args below meth c H locs cells slots Q (F0 m pc ls (.int (sI z) :: rest)) := by
  obtain ⟨rfl, hz2⟩ := hz
  have hr : sR ((N0 : Nat) : Int) := by omega
  have hneg : ¬ sI (N0 : Int) < 0 := by rw [sI_zero, sI_lt hr (by omega)]; omega
  have hcl : (sI (N0 : Int)).toNatClampNeg = N0 := by rw [sI_clamp hr]; omega
  obtain ⟨-, -, -, -, -, k4⟩ := (hK.2 2 (G.2.2.2.1, .object "Stonecabinet$State") rfl).2
  refine W.anew S.1 S.2.1 S.2.2.2.1 hclink (va_AO.use hAO) rfl hdg rfl hneg (by show _ ≤ 536870912; rw [hcl]; omega) hR.1 (by rw [hcl]; exact hR.2) fun cA kA comp f1 f2 f3 f4 => ?_
  have hcA : cA = G.2.2.2.1 := Option.some.inj (f1.symm.trans k4)
  subst hcA
  rw [hcl]
  generalize hH1 : H.push ({ cls := G.2.2.2.1, slots := Array.replicate N0 .null, vm := .none } : Cell) = H1
  have z1 : H1.size = H.size + 1 := by rw [← hH1, Array.size_push]
  have e1 : H1[H.size]? = some (arrV G.2.2.2.1 N0 (fun _ => .null)) := by rw [← hH1, Array.getElem?_push_size, ← arrV_new]
  have o1 : ∀ q : Nat, q < H.size → H1[q]? = H[q]? := fun q hq => by rw [← hH1, Array.getElem?_push, if_neg (Nat.ne_of_lt hq)]
  have hbN : b ≤ N := by rw [← hV.1.1]; exact Nat.le_trans hV.2.2 hV.2.1.1
  rw [hV.1.1] at e1 z1 ⊢
  have o2 : ∀ q : Nat, q < N → H1[q]? = H[q]? := fun q hq => o1 q (by rw [hV.1.1]; exact hq)
  refine kk _ H1 locs rfl ⟨hV.1.push hbN ?_ z1 o2, ⟨Nat.le_trans hV.2.1.1 (by rw [z1, hV.1.1]; omega), fun q h1 h2 => (o1 q (Nat.lt_of_lt_of_le h1 hV.2.1.1)).trans (hV.2.1.2.1 q h1 h2), hV.2.1.2.2⟩, hV.2.2⟩
  show H1[N]? = some (vp_cell _ _)
  rw [e1, vp_cell_q]
  rfl
end SQ
/-! the start, where rows of States are made -/
def xqU (G : sG) (b : Nat) (M : sM) (N : Nat) (U : State) : Prop := sU G b M N U ∧ va_AO "Stonecabinet$State" U
theorem xqU.blind {G : sG} {b : Nat} {M : sM} {N : Nat} {av : List Value} : FrameBlind (va_Pc av (xqU G b M N)) := by
  intro a U g mk h
  obtain ⟨h0, h1, h2⟩ := h
  obtain ⟨h3, h4⟩ := sU.blind a U g mk ⟨h0, h1⟩
  exact ⟨h3, h4, va_AO.moved (u := U) (U := U.calling g mk a) (Vm.Alike.refl U.vm) h2⟩
theorem xqU.of {G : sG} {b : Nat} {M : sM} {N : Nat} {s : State} {H : Heap} {locs : List Loc} (hK : va_K G.1 vwCl (sTy G) s) (hV : sV G b M N s H locs) (hT : sT b s s.heap) (hA : va_AO "Stonecabinet$State" s) (U : State) (hU : U.heap = H) (hW : s.WarmedH U.vm) : xqU G b M N U := ⟨sU.of hK hV hT U hU hW, va_AO.moved hW.alike hA⟩
def cQ (l : Launch) (y : MethodName) (ws : List Cond) (rm : Room) (G : sG) (b : Nat) (M : sM) (N : Nat) (av : List Value) (post : sM → Nat → Prop) : Prop :=
  Met l y ws rm (va_Pc av (xqU G b M N)) (va_Qv (fun (u : sM × Nat) => post u.1 u.2) (fun u t => sH G b u.1 u.2 t.heap) (sA b)) rm.cells rm.slots (sA b)
theorem sE.ofQ {l : Launch} {y : MethodName} {ws ws' : List Cond} {rm : Room} {G : sG} {b : Nat} {M : sM} {N : Nat} {av : List Value} {post : sM → Nat → Prop} {cc : ByteArray} {nL : Nat} {ret : Option FieldType} (hy : plainName y.cls = true) (hw : ws = Cond.code y cc nL ret :: ws') (hL : (lg_sl av).length ≤ nL)
    (body : ∀ (p : Program) (e : Env) (s : State) (m : MethodId) (args : Array Value) (below : List Frame) (meth : Method) (c : Code) (ls : Array Slot) (Q : State → Prop), Q = sQv G b below post args s rm.cells rm.slots → sE p l e rm s m args below meth c cc nL ws y.cls y.name ret G b M N → va_AO "Stonecabinet$State" s → lv_has ls nL (lv_args 0 av) → W p l e rm s m args below meth c s.heap [] 0 0 Q (F0 m 0 ls [])) :
    cQ l y ws rm G b M N av post := by
  refine Met.ofW (cc := cc) (maxL := nL) (ret := ret) hy hw ?_
  intro p e s m args below meth c s₁ B hml hv
  obtain ⟨rfl, ⟨hH, hbN, hK, hT⟩, hF⟩ := hv
  have hl := lv_entry av (n := nL) hL
  rw [lg_entry_eq]
  exact body p e s m av.toArray below meth c _ _ rfl ⟨⟨B.exec, B.bytes, hml, findClass_of_methodNamed B.named, atoms_spec (ws := ws) B.pre⟩, B.returns, B.notSynchronized, (name_of_methodNamed B.named B.method).1, hK, hT, hH, va_S.rf, hH.1 ▸ hbN⟩ hF hl
/-! the mean value, the share that lies -/
def vlI (f : sF) : Int := isum (f 568) (fun s => f (40 + s))
def mvD (f : sF) : UInt64 := if f 568 = 0 then FP.dconst0 else FP.ddiv (FP.i2d (sI (vlI f))) (FP.i2d (sI (f 568)))
def lyI (f : sF) : Int := isum (f 568) (fun s => if f (50 + s) = -1 then 0 else 1)
def lsF (f : sF) : UInt32 := if f 568 = 0 then FP.fconst0 else FP.fdiv (FP.i2f (sI (lyI f))) (FP.i2f (sI (f 568)))
theorem mv_n {f : sF} (h : sOk f) : FP.Core.decode FP.Core.b64 (mvD f).toNat ≠ .nan := by
  have := sOk_N h
  unfold mvD
  split
  · exact dp_0
  · exact (dp_div (by omega)).2
theorem ls_n {f : sF} (h : sOk f) : FP.Core.decode FP.Core.b32 (lsF f).toNat ≠ .nan := by
  have := sOk_N h
  unfold lsF
  split
  · exact fp_0
  · exact (fp_div (by omega)).2
theorem ly_4 {f : sF} (h : sOk f) : isum 4 (fun d => isum (f 568) (lyT f d 0)) = lyI f := by
  rw [isum_swap (n := 4) (m := f 568) (fun d s => lyT f d 0 s)]
  refine isum_c fun s a b => ?_
  have h1 := sOk_S h s a b
  by_cases e : f (50 + s) = -1
  · rw [if_pos e]
    exact isum_z fun d _ _ => by rw [lyT_0, if_neg (by omega)]
  · rw [if_neg e, isum_pick (a := f (50 + s)) (fun d => lyT f d 0 s) (by omega) (fun d _ _ q => by rw [lyT_0, if_neg (by omega)])]
    rw [lyT_0, if_pos rfl]

/-- the object of the class -/
abbrev xO (c : Nat) (kn ch : Int) : va_E := sObj 8 [.ref (c + 1), .ref (c + 16), .ref (c + 31), .int (sI kn), .int (sI ch), .ref (c + 32), .ref (c + 34), .ref (c + 38), .ref (c + 48), .ref (c + 54), .ref (c + 57)]

abbrev rmX11_meanValue : Room := { frames := 2, cells := 0, slots := 0, locals := 60 }
set_option maxHeartbeats 4000000 in
set_option maxRecDepth 100000 in
theorem kX11_meanValue (l_ : Launch) (G : sG) (b_ : Nat) (M : sM) (N : Nat) (m : Nat) (th ch tn ea sn nm wn : Int) (f : sF) (hm0 : M m = some (mO m th ch tn ea sn nm wn)) (hm1 : M (m + 1) = some (sArr G 574 f)) (hok : sOk f) : cD l_ yX11_meanValue wsX11_meanValue rmX11_meanValue G b_ M N [.ref m] (fun z_ M1 N1 => z_ = mvD f ∧ N1 = N ∧ M1 m = some (mO m 0 ch tn ea sn nm wn) ∧ (∀ x : Nat, ¬ (x = m) → M1 x = M x)) := by
  refine sE.ofD (cc := cX11_meanValue) (nL := 3) (ret := (some .double)) (by decide) rfl (Nat.le_of_ble_eq_true rfl) ?_
  intro p_ e_ s_ m_ args_ below_ meth_ c_ ls Q hQ E hl
  have E : sE p_ l_ e_ rmX11_meanValue s_ m_ args_ below_ meth_ c_ cX11_meanValue 3 wsX11_meanValue RX11 "meanValue" (some .double) G b_ M N := E
  have S := E.1
  have hx_ := S.1
  have hb_ := S.2.1
  have hK := E.2.2.2.2.1
  have hV := E.2.2.2.2.2.2
  have hl : lv_has ls 3 [(0, .ref m)] := hl
  have inX11_ : ∀ w ∈ wsX110, w ∈ wsX11_meanValue := fun _ h => List.mem_cons_of_mem _ (List.mem_append_right _ h)
  have kn0 := sOk_N hok
  refine lv_aload_n hx_ hb_ dX11_meanValue_0 rfl (lv_at hl 0 rfl) ?_
  refine si_const S dX11_meanValue_1 ?_
  refine sc_put (ci := 9) (C := RX11) (T := TX11) (n := 22) S hK hV inX11_ tyX11_ok nmX11 hm0 rfl 0 (by decide) (S.2.2.2.2 _ (List.mem_of_getElem? (i := 1) rfl)) rfl rfl rfl rfl (Nat.le_of_ble_eq_true rfl) dX11_meanValue_2 (fs1 := [.int (sI 0), .ref (m + 1), .ref (m + 2), .int (sI ch), .ref (m + 3), .int (sI tn), .int (sI ea), .ref (m + 4), .ref (m + 5), .ref (m + 6), .ref (m + 7), .ref (m + 8), .ref (m + 9), .int (sI sn), .ref (m + 10), .ref (m + 11), .ref (m + 12), .ref (m + 13), .int (sI nm), .ref (m + 14), .ref (m + 15), .int (sI wn)]) rfl (fun M1 H locs hM1 hV => ?_)
  have hc2 : M1 m = some (mO m 0 ch tn ea sn nm wn) := (congrFun hM1 m).trans (va_up_self M m _)
  refine si_const S dX11_meanValue_5 ?_
  refine lv_istore_n (lv' := [(1, .int (sI 0)), (0, .ref m)]) hx_ hb_ dX11_meanValue_6 rfl hl (by decide) rfl (fun ls hl => ?_)
  refine si_const S dX11_meanValue_7 ?_
  refine lv_istore_n (lv' := [(2, .int (sI 0)), (1, .int (sI 0)), (0, .ref m)]) hx_ hb_ dX11_meanValue_8 rfl hl (by decide) rfl (fun ls hl => ?_)
  have L9 : ∀ (fuel : Nat) (n : Int) (i : Int)  (H : Heap) (locs : List Loc) (ls : Array Slot), ((f 568 - i).toNat) < fuel → (0 ≤ i ∧ i ≤ f 568) → (n = isum i (fun s => f (40 + s))) → sV G b_ M1 N s_ H locs → lv_has ls 3 [(0, .ref m), (1, .int (sI n)), (2, .int (sI i))] → W p_ l_ e_ rmX11_meanValue s_ m_ args_ below_ meth_ c_ H locs 0 0 Q (F0 m_ 9 ls []) := by
    intro fuel
    induction fuel with
    | zero => intro n i H locs ls hmu; exact absurd hmu (Nat.not_lt_zero _)
    | succ fuel ih9 =>
      intro n i H locs ls hmu9 hv9_0 hn  hV hl
      refine lv_iload_n hx_ hb_ dX11_meanValue_9 rfl (lv_at hl 2 rfl) ?_
      refine lv_aload_n hx_ hb_ dX11_meanValue_10 rfl (lv_at hl 0 rfl) ?_
      have hc3 : M1 (m + 1) = some (sArr G 574 f) := ((congrFun hM1 (m + 1)).trans (va_up_ne M _ (by omega))).trans hm1
      refine sk_VP E hV (As := []) (rest := [.int (sI i)]) (kX11_many l_ G b_ M1 N m 0 ch tn ea sn nm wn f hc2 hc3) (cwV 0 S.2.2.2.2 gX11_meanValue_X11_many rfl rfl rfl (by decide +kernel) ⟨Nat.le_of_ble_eq_true rfl, Nat.le_of_ble_eq_true rfl⟩) (ci := 9) hc2 rfl rfl rfl hl.1 (Nat.le_of_ble_eq_true rfl) dX11_meanValue_11 (c1 := 0) (s1 := 0) ⟨⟨rfl, rfl⟩, by decide, by decide⟩ (fun H locs hV => ?_)
      refine sb_ge (tgt := 35) S dX11_meanValue_14 (by decide) (by omega) (fun c4 => ?_) (fun c4 => ?_)
      · refine lv_aload_n hx_ hb_ dX11_meanValue_35 rfl (lv_at hl 0 rfl) ?_
        refine sk_VP E hV (As := []) (rest := []) (kX11_many l_ G b_ M1 N m 0 ch tn ea sn nm wn f hc2 hc3) (cwV 0 S.2.2.2.2 gX11_meanValue_X11_many rfl rfl rfl (by decide +kernel) ⟨Nat.le_of_ble_eq_true rfl, Nat.le_of_ble_eq_true rfl⟩) (ci := 9) hc2 rfl rfl rfl hl.1 (Nat.le_of_ble_eq_true rfl) dX11_meanValue_36 (c1 := 0) (s1 := 0) ⟨⟨rfl, rfl⟩, by decide, by decide⟩ (fun H locs hV => ?_)
        refine sz_ne (tgt := 46) S dX11_meanValue_39 (by decide) (by omega) (fun c5 => ?_) (fun c5 => ?_)
        · refine lv_iload_n hx_ hb_ dX11_meanValue_46 rfl (lv_at hl 1 rfl) ?_
          refine lv_i2d hx_ hb_ dX11_meanValue_47 ?_
          refine lv_aload_n hx_ hb_ dX11_meanValue_48 rfl (lv_at hl 0 rfl) ?_
          refine sk_VP E hV (As := []) (rest := [.double (FP.i2d (sI n))]) (kX11_many l_ G b_ M1 N m 0 ch tn ea sn nm wn f hc2 hc3) (cwV 0 S.2.2.2.2 gX11_meanValue_X11_many rfl rfl rfl (by decide +kernel) ⟨Nat.le_of_ble_eq_true rfl, Nat.le_of_ble_eq_true rfl⟩) (ci := 9) hc2 rfl rfl rfl hl.1 (Nat.le_of_ble_eq_true rfl) dX11_meanValue_49 (c1 := 0) (s1 := 0) ⟨⟨rfl, rfl⟩, by decide, by decide⟩ (fun H locs hV => ?_)
          refine lv_i2d hx_ hb_ dX11_meanValue_52 ?_
          refine lv_ddiv hx_ hb_ dX11_meanValue_53 ((dp_div (by omega)).1) ?_
          exact sr_d E hQ dX11_meanValue_54 ⟨Nat.le_of_ble_eq_true rfl, Nat.le_of_ble_eq_true rfl⟩ hV (⟨by unfold mvD vlI; rw [if_neg (by omega), hn, show i = f 568 by omega], rfl, hc2, fun x q0 => (congrFun hM1 x).trans (va_up_ne M _ (by omega))⟩)
        · refine lv_dconst0 hx_ hb_ dX11_meanValue_42 ?_
          refine lv_goto (tgt := 54) hx_ hb_ dX11_meanValue_43 (by decide) ?_
          exact sr_d E hQ dX11_meanValue_54 ⟨Nat.le_of_ble_eq_true rfl, Nat.le_of_ble_eq_true rfl⟩ hV (⟨by unfold mvD; rw [if_pos (by omega)], rfl, hc2, fun x q0 => (congrFun hM1 x).trans (va_up_ne M _ (by omega))⟩)
      · refine lv_iload_n hx_ hb_ dX11_meanValue_17 rfl (lv_at hl 1 rfl) ?_
        refine lv_aload_n hx_ hb_ dX11_meanValue_18 rfl (lv_at hl 0 rfl) ?_
        refine sc_get (ci := 9) (C := RX11) (T := TX11) (n := 22) S hK hV inX11_ hc2 rfl 1 (by decide) (S.2.2.2.2 _ (List.mem_of_getElem? (i := 2) rfl)) rfl rfl dX11_meanValue_19 ?_
        refine si_bipush S dX11_meanValue_22 (by decide) ?_
        refine lv_iload_n hx_ hb_ dX11_meanValue_24 rfl (lv_at hl 2 rfl) ?_
        refine si_add S dX11_meanValue_25 ?_
        refine sc_iald S hK hV hc3 (by omega) dX11_meanValue_26 ?_
        have kn6 : 0 ≤ f (40 + i) ∧ f (40 + i) ≤ 10000 := (sOk_S hok i (by omega) (by omega)).2.2.2.2.1
        refine si_add S dX11_meanValue_27 ?_
        refine lv_istore_n (lv' := [(1, .int (sI (n + (f (40 + i))))), (0, .ref m), (2, .int (sI i))]) hx_ hb_ dX11_meanValue_28 rfl hl (by decide) rfl (fun ls hl => ?_)
        refine si_inc (lv' := [(2, .int (sI (i + 1))), (1, .int (sI (n + (f (40 + i))))), (0, .ref m)]) S dX11_meanValue_29 hl (k := 2) rfl (by decide) rfl (fun ls hl => ?_)
        refine lv_goto (tgt := 9) hx_ hb_ dX11_meanValue_32 (by decide) ?_
        exact ih9 (n + (f (40 + i))) (i + 1) _ _ _ (by omega) (by omega) (by rw [isum_s _ (by omega), ← hn]) hV (lv_sub hl [2, 1, 0] rfl)
  exact L9 _ 0 0 _ _ _ (Nat.lt_succ_self _) (by omega) (rfl) hV (lv_sub hl [2, 1, 0] rfl)

abbrev rmX11_laidShare : Room := { frames := 2, cells := 0, slots := 0, locals := 60 }
set_option maxHeartbeats 4000000 in
set_option maxRecDepth 100000 in
theorem kX11_laidShare (l_ : Launch) (G : sG) (b_ : Nat) (M : sM) (N : Nat) (m : Nat) (th ch tn ea sn nm wn : Int) (f : sF) (hm0 : M m = some (mO m th ch tn ea sn nm wn)) (hm1 : M (m + 1) = some (sArr G 574 f)) (hok : sOk f) : cF l_ yX11_laidShare wsX11_laidShare rmX11_laidShare G b_ M N [.ref m] (fun z_ M1 N1 => z_ = lsF f ∧ N1 = N ∧ M1 m = some (mO m 0 ch tn ea sn nm wn) ∧ (∀ x : Nat, ¬ (x = m) → M1 x = M x)) := by
  refine sE.ofF (cc := cX11_laidShare) (nL := 3) (ret := (some .float)) (by decide) rfl (Nat.le_of_ble_eq_true rfl) ?_
  intro p_ e_ s_ m_ args_ below_ meth_ c_ ls Q hQ E hl
  have E : sE p_ l_ e_ rmX11_laidShare s_ m_ args_ below_ meth_ c_ cX11_laidShare 3 wsX11_laidShare RX11 "laidShare" (some .float) G b_ M N := E
  have S := E.1
  have hx_ := S.1
  have hb_ := S.2.1
  have hK := E.2.2.2.2.1
  have hV := E.2.2.2.2.2.2
  have hl : lv_has ls 3 [(0, .ref m)] := hl
  have inX11_ : ∀ w ∈ wsX110, w ∈ wsX11_laidShare := fun _ h => List.mem_cons_of_mem _ (List.mem_append_right _ h)
  have kn0 := sOk_N hok
  refine lv_aload_n hx_ hb_ dX11_laidShare_0 rfl (lv_at hl 0 rfl) ?_
  refine si_const S dX11_laidShare_1 ?_
  refine sc_put (ci := 9) (C := RX11) (T := TX11) (n := 22) S hK hV inX11_ tyX11_ok nmX11 hm0 rfl 0 (by decide) (S.2.2.2.2 _ (List.mem_of_getElem? (i := 1) rfl)) rfl rfl rfl rfl (Nat.le_of_ble_eq_true rfl) dX11_laidShare_2 (fs1 := [.int (sI 0), .ref (m + 1), .ref (m + 2), .int (sI ch), .ref (m + 3), .int (sI tn), .int (sI ea), .ref (m + 4), .ref (m + 5), .ref (m + 6), .ref (m + 7), .ref (m + 8), .ref (m + 9), .int (sI sn), .ref (m + 10), .ref (m + 11), .ref (m + 12), .ref (m + 13), .int (sI nm), .ref (m + 14), .ref (m + 15), .int (sI wn)]) rfl (fun M1 H locs hM1 hV => ?_)
  have hc2 : M1 m = some (mO m 0 ch tn ea sn nm wn) := (congrFun hM1 m).trans (va_up_self M m _)
  refine si_const S dX11_laidShare_5 ?_
  refine lv_istore_n (lv' := [(1, .int (sI 0)), (0, .ref m)]) hx_ hb_ dX11_laidShare_6 rfl hl (by decide) rfl (fun ls hl => ?_)
  refine si_const S dX11_laidShare_7 ?_
  refine lv_istore_n (lv' := [(2, .int (sI 0)), (1, .int (sI 0)), (0, .ref m)]) hx_ hb_ dX11_laidShare_8 rfl hl (by decide) rfl (fun ls hl => ?_)
  have L9 : ∀ (fuel : Nat) (n : Int) (i : Int)  (H : Heap) (locs : List Loc) (ls : Array Slot), ((f 568 - i).toNat) < fuel → (0 ≤ i ∧ i ≤ f 568) → (n = isum i (fun s => if f (50 + s) = -1 then 0 else 1)) → sV G b_ M1 N s_ H locs → lv_has ls 3 [(0, .ref m), (1, .int (sI n)), (2, .int (sI i))] → W p_ l_ e_ rmX11_laidShare s_ m_ args_ below_ meth_ c_ H locs 0 0 Q (F0 m_ 9 ls []) := by
    intro fuel
    induction fuel with
    | zero => intro n i H locs ls hmu; exact absurd hmu (Nat.not_lt_zero _)
    | succ fuel ih9 =>
      intro n i H locs ls hmu9 hv9_0 hn  hV hl
      refine lv_iload_n hx_ hb_ dX11_laidShare_9 rfl (lv_at hl 2 rfl) ?_
      refine lv_aload_n hx_ hb_ dX11_laidShare_10 rfl (lv_at hl 0 rfl) ?_
      have hc3 : M1 (m + 1) = some (sArr G 574 f) := ((congrFun hM1 (m + 1)).trans (va_up_ne M _ (by omega))).trans hm1
      refine sk_VP E hV (As := []) (rest := [.int (sI i)]) (kX11_many l_ G b_ M1 N m 0 ch tn ea sn nm wn f hc2 hc3) (cwV 0 S.2.2.2.2 gX11_laidShare_X11_many rfl rfl rfl (by decide +kernel) ⟨Nat.le_of_ble_eq_true rfl, Nat.le_of_ble_eq_true rfl⟩) (ci := 9) hc2 rfl rfl rfl hl.1 (Nat.le_of_ble_eq_true rfl) dX11_laidShare_11 (c1 := 0) (s1 := 0) ⟨⟨rfl, rfl⟩, by decide, by decide⟩ (fun H locs hV => ?_)
      refine sb_ge (tgt := 44) S dX11_laidShare_14 (by decide) (by omega) (fun c4 => ?_) (fun c4 => ?_)
      · refine lv_aload_n hx_ hb_ dX11_laidShare_44 rfl (lv_at hl 0 rfl) ?_
        refine sk_VP E hV (As := []) (rest := []) (kX11_many l_ G b_ M1 N m 0 ch tn ea sn nm wn f hc2 hc3) (cwV 0 S.2.2.2.2 gX11_laidShare_X11_many rfl rfl rfl (by decide +kernel) ⟨Nat.le_of_ble_eq_true rfl, Nat.le_of_ble_eq_true rfl⟩) (ci := 9) hc2 rfl rfl rfl hl.1 (Nat.le_of_ble_eq_true rfl) dX11_laidShare_45 (c1 := 0) (s1 := 0) ⟨⟨rfl, rfl⟩, by decide, by decide⟩ (fun H locs hV => ?_)
        refine sz_ne (tgt := 55) S dX11_laidShare_48 (by decide) (by omega) (fun c5 => ?_) (fun c5 => ?_)
        · refine lv_iload_n hx_ hb_ dX11_laidShare_55 rfl (lv_at hl 1 rfl) ?_
          refine lv_i2f hx_ hb_ dX11_laidShare_56 ?_
          refine lv_aload_n hx_ hb_ dX11_laidShare_57 rfl (lv_at hl 0 rfl) ?_
          refine sk_VP E hV (As := []) (rest := [.float (FP.i2f (sI n))]) (kX11_many l_ G b_ M1 N m 0 ch tn ea sn nm wn f hc2 hc3) (cwV 0 S.2.2.2.2 gX11_laidShare_X11_many rfl rfl rfl (by decide +kernel) ⟨Nat.le_of_ble_eq_true rfl, Nat.le_of_ble_eq_true rfl⟩) (ci := 9) hc2 rfl rfl rfl hl.1 (Nat.le_of_ble_eq_true rfl) dX11_laidShare_58 (c1 := 0) (s1 := 0) ⟨⟨rfl, rfl⟩, by decide, by decide⟩ (fun H locs hV => ?_)
          refine lv_i2f hx_ hb_ dX11_laidShare_61 ?_
          refine lv_fdiv hx_ hb_ dX11_laidShare_62 ((fp_div (by omega)).1) ?_
          exact sr_f E hQ dX11_laidShare_63 ⟨Nat.le_of_ble_eq_true rfl, Nat.le_of_ble_eq_true rfl⟩ hV (⟨by unfold lsF lyI; rw [if_neg (by omega), hn, show i = f 568 by omega], rfl, hc2, fun x q0 => (congrFun hM1 x).trans (va_up_ne M _ (by omega))⟩)
        · refine lv_fconst0 hx_ hb_ dX11_laidShare_51 ?_
          refine lv_goto (tgt := 63) hx_ hb_ dX11_laidShare_52 (by decide) ?_
          exact sr_f E hQ dX11_laidShare_63 ⟨Nat.le_of_ble_eq_true rfl, Nat.le_of_ble_eq_true rfl⟩ hV (⟨by unfold lsF; rw [if_pos (by omega)], rfl, hc2, fun x q0 => (congrFun hM1 x).trans (va_up_ne M _ (by omega))⟩)
      · refine lv_iload_n hx_ hb_ dX11_laidShare_17 rfl (lv_at hl 1 rfl) ?_
        refine lv_aload_n hx_ hb_ dX11_laidShare_18 rfl (lv_at hl 0 rfl) ?_
        refine sc_get (ci := 9) (C := RX11) (T := TX11) (n := 22) S hK hV inX11_ hc2 rfl 1 (by decide) (S.2.2.2.2 _ (List.mem_of_getElem? (i := 2) rfl)) rfl rfl dX11_laidShare_19 ?_
        refine si_bipush S dX11_laidShare_22 (by decide) ?_
        refine lv_iload_n hx_ hb_ dX11_laidShare_24 rfl (lv_at hl 2 rfl) ?_
        refine si_add S dX11_laidShare_25 ?_
        refine sc_iald S hK hV hc3 (by omega) dX11_laidShare_26 ?_
        have kn6 : -1 ≤ f (50 + i) ∧ f (50 + i) ≤ 3 := (sOk_S hok i (by omega) (by omega)).2.2.2.2.2.1
        refine si_const S dX11_laidShare_27 ?_
        refine sb_eq (tgt := 35) S dX11_laidShare_28 (by decide) (by omega) (fun c7 => ?_) (fun c7 => ?_)
        · refine si_const S dX11_laidShare_35 ?_
          refine si_add S dX11_laidShare_36 ?_
          refine lv_istore_n (lv' := [(1, .int (sI (n + 0))), (0, .ref m), (2, .int (sI i))]) hx_ hb_ dX11_laidShare_37 rfl hl (by decide) rfl (fun ls hl => ?_)
          refine si_inc (lv' := [(2, .int (sI (i + 1))), (1, .int (sI (n + 0))), (0, .ref m)]) S dX11_laidShare_38 hl (k := 2) rfl (by decide) rfl (fun ls hl => ?_)
          refine lv_goto (tgt := 9) hx_ hb_ dX11_laidShare_41 (by decide) ?_
          exact ih9 (n + 0) (i + 1) _ _ _ (by omega) (by omega) (by rw [isum_s _ (by omega), ← hn]; show _ = n + (if f (50 + i) = -1 then 0 else 1); rw [if_pos (by omega)]) hV (lv_sub hl [2, 1, 0] rfl)
        · refine si_const S dX11_laidShare_31 ?_
          refine lv_goto (tgt := 36) hx_ hb_ dX11_laidShare_32 (by decide) ?_
          refine si_add S dX11_laidShare_36 ?_
          refine lv_istore_n (lv' := [(1, .int (sI (n + 1))), (0, .ref m), (2, .int (sI i))]) hx_ hb_ dX11_laidShare_37 rfl hl (by decide) rfl (fun ls hl => ?_)
          refine si_inc (lv' := [(2, .int (sI (i + 1))), (1, .int (sI (n + 1))), (0, .ref m)]) S dX11_laidShare_38 hl (k := 2) rfl (by decide) rfl (fun ls hl => ?_)
          refine lv_goto (tgt := 9) hx_ hb_ dX11_laidShare_41 (by decide) ?_
          exact ih9 (n + 1) (i + 1) _ _ _ (by omega) (by omega) (by rw [isum_s _ (by omega), ← hn]; show _ = n + (if f (50 + i) = -1 then 0 else 1); rw [if_neg (by omega)]) hV (lv_sub hl [2, 1, 0] rfl)
  exact L9 _ 0 0 _ _ _ (Nat.lt_succ_self _) (by omega) (rfl) hV (lv_sub hl [2, 1, 0] rfl)

abbrev rmX10_meanValue : Room := { frames := 2, cells := 0, slots := 0, locals := 63 }
set_option maxHeartbeats 4000000 in
set_option maxRecDepth 100000 in
theorem kX10_meanValue (l_ : Launch) (G : sG) (b_ : Nat) (M : sM) (N : Nat) (c : Nat) (kn ch : Int) (f : sF) (hc0 : M c = some (xO c kn ch)) (hst : stC G M (c + 1) f) (hok : sOk f) : cD l_ yX10_meanValue wsX10_meanValue rmX10_meanValue G b_ M N [.ref c] (fun z_ M1 N1 => z_ = mvD f ∧ N1 = N ∧ (∀ x : Nat, M1 x = M x)) := by
  refine sE.ofD (cc := cX10_meanValue) (nL := 4) (ret := (some .double)) (by decide) rfl (Nat.le_of_ble_eq_true rfl) ?_
  intro p_ e_ s_ m_ args_ below_ meth_ c_ ls Q hQ E hl
  have E : sE p_ l_ e_ rmX10_meanValue s_ m_ args_ below_ meth_ c_ cX10_meanValue 4 wsX10_meanValue RX10 "meanValue" (some .double) G b_ M N := E
  have S := E.1
  have hx_ := S.1
  have hb_ := S.2.1
  have hK := E.2.2.2.2.1
  have hV := E.2.2.2.2.2.2
  have hl : lv_has ls 4 [(0, .ref c)] := hl
  have inX10_ : ∀ w ∈ wsX100, w ∈ wsX10_meanValue := fun _ h => List.mem_cons_of_mem _ (List.mem_append_left _ (List.mem_append_left _ (List.mem_append_right _ h)))
  have inX6_ : ∀ w ∈ wsX60, w ∈ wsX10_meanValue := fun _ h => List.mem_cons_of_mem _ (List.mem_append_left _ (List.mem_append_right _ h))
  have inX8_ : ∀ w ∈ wsX80, w ∈ wsX10_meanValue := fun _ h => List.mem_cons_of_mem _ (List.mem_append_right _ h)
  have kn0 := sOk_N hok
  refine lv_aload_n hx_ hb_ dX10_meanValue_0 rfl (lv_at hl 0 rfl) ?_
  refine sc_get (ci := 8) (C := RX10) (T := TX10) (n := 11) S hK hV inX10_ hc0 rfl 0 (by decide) (S.2.2.2.2 _ (List.mem_of_getElem? (i := 1) rfl)) rfl rfl dX10_meanValue_1 ?_
  refine sc_getN (ci := 4) (C := RX6) (T := TX6) (n := 8) S hK hV inX6_ (hst).1 rfl 0 (by decide) (E.2.2.2.2.2.1.1.2.1 _ (List.mem_of_getElem? (i := 3) rfl)) rfl rfl dX10_meanValue_4 ?_
  refine sk_VP E hV (As := []) (rest := []) (kTs l_ G b_ M N (c + 2) 7 (f 568) 70 (tvS f) ((hst).2.1)) (cwV 0 S.2.2.2.2 gX10_meanValue_X8_size rfl rfl rfl (by decide +kernel) ⟨Nat.le_of_ble_eq_true rfl, Nat.le_of_ble_eq_true rfl⟩) (ci := 6) ((hst).2.1).1 rfl rfl rfl hl.1 (Nat.le_of_ble_eq_true rfl) dX10_meanValue_7 (c1 := 0) (s1 := 0) ⟨⟨rfl, rfl⟩, by decide, by decide⟩ (fun H locs hV => ?_)
  refine lv_istore_n (lv' := [(1, .int (sI (f 568))), (0, .ref c)]) hx_ hb_ dX10_meanValue_10 rfl hl (by decide) rfl (fun ls hl => ?_)
  refine lv_iload_n hx_ hb_ dX10_meanValue_11 rfl (lv_at hl 0 rfl) ?_
  refine sz_gt (tgt := 17) S dX10_meanValue_12 (by decide) (by omega) (fun c1 => ?_) (fun c1 => ?_)
  · refine si_const S dX10_meanValue_17 ?_
    refine lv_istore_n (lv' := [(2, .int (sI 0)), (1, .int (sI (f 568))), (0, .ref c)]) hx_ hb_ dX10_meanValue_18 rfl hl (by decide) rfl (fun ls hl => ?_)
    refine si_const S dX10_meanValue_19 ?_
    refine lv_istore_n (lv' := [(3, .int (sI 0)), (2, .int (sI 0)), (1, .int (sI (f 568))), (0, .ref c)]) hx_ hb_ dX10_meanValue_20 rfl hl (by decide) rfl (fun ls hl => ?_)
    have L21 : ∀ (fuel : Nat) (n : Int) (i : Int)  (H : Heap) (locs : List Loc) (ls : Array Slot), ((f 568 - i).toNat) < fuel → (0 ≤ i ∧ i ≤ f 568) → (n = isum i (fun s => f (40 + s))) → sV G b_ M N s_ H locs → lv_has ls 4 [(0, .ref c), (1, .int (sI (f 568))), (2, .int (sI n)), (3, .int (sI i))] → W p_ l_ e_ rmX10_meanValue s_ m_ args_ below_ meth_ c_ H locs 0 0 Q (F0 m_ 21 ls []) := by
      intro fuel
      induction fuel with
      | zero => intro n i H locs ls hmu; exact absurd hmu (Nat.not_lt_zero _)
      | succ fuel ih21 =>
        intro n i H locs ls hmu21 hv21_0 hn  hV hl
        refine lv_iload_n hx_ hb_ dX10_meanValue_21 rfl (lv_at hl 3 rfl) ?_
        refine lv_iload_n hx_ hb_ dX10_meanValue_22 rfl (lv_at hl 1 rfl) ?_
        refine sb_ge (tgt := 47) S dX10_meanValue_23 (by decide) (by omega) (fun c2 => ?_) (fun c2 => ?_)
        · refine lv_iload_n hx_ hb_ dX10_meanValue_47 rfl (lv_at hl 2 rfl) ?_
          refine lv_i2d hx_ hb_ dX10_meanValue_48 ?_
          refine lv_iload_n hx_ hb_ dX10_meanValue_49 rfl (lv_at hl 1 rfl) ?_
          refine lv_i2d hx_ hb_ dX10_meanValue_50 ?_
          refine lv_ddiv hx_ hb_ dX10_meanValue_51 ((dp_div (by omega)).1) ?_
          exact sr_d E hQ dX10_meanValue_52 ⟨Nat.le_of_ble_eq_true rfl, Nat.le_of_ble_eq_true rfl⟩ hV (⟨by unfold mvD vlI; rw [if_neg (by omega), hn, show i = f 568 by omega], rfl, fun x  => rfl⟩)
        · refine lv_iload_n hx_ hb_ dX10_meanValue_26 rfl (lv_at hl 2 rfl) ?_
          refine lv_aload_n hx_ hb_ dX10_meanValue_27 rfl (lv_at hl 0 rfl) ?_
          refine sc_get (ci := 8) (C := RX10) (T := TX10) (n := 11) S hK hV inX10_ hc0 rfl 0 (by decide) (S.2.2.2.2 _ (List.mem_of_getElem? (i := 1) rfl)) rfl rfl dX10_meanValue_28 ?_
          refine sc_getN (ci := 4) (C := RX6) (T := TX6) (n := 8) S hK hV inX6_ (hst).1 rfl 0 (by decide) (E.2.2.2.2.2.1.1.2.1 _ (List.mem_of_getElem? (i := 3) rfl)) rfl rfl dX10_meanValue_31 ?_
          refine lv_iload_n hx_ hb_ dX10_meanValue_34 rfl (lv_at hl 3 rfl) ?_
          refine si_const S dX10_meanValue_35 ?_
          refine sk_VP E hV (As := [.int (sI i), .int (sI 3)]) (rest := [.int (sI n)]) (kTg l_ G b_ M N (c + 2) 7 (f 568) 70 (tvS f) i 3 (f (40 + i)) ((hst).2.1) (by omega) (by omega) (tvS_3 f i)) (cwV 2 S.2.2.2.2 gX10_meanValue_X8_get rfl rfl rfl (by decide +kernel) ⟨Nat.le_of_ble_eq_true rfl, Nat.le_of_ble_eq_true rfl⟩) (ci := 6) ((hst).2.1).1 rfl rfl rfl hl.1 (Nat.le_of_ble_eq_true rfl) dX10_meanValue_36 (c1 := 0) (s1 := 0) ⟨⟨rfl, rfl⟩, by decide, by decide⟩ (fun H locs hV => ?_)
          have kn3 : 0 ≤ f (40 + i) ∧ f (40 + i) ≤ 10000 := (sOk_S hok i (by omega) (by omega)).2.2.2.2.1
          refine si_add S dX10_meanValue_39 ?_
          refine lv_istore_n (lv' := [(2, .int (sI (n + (f (40 + i))))), (0, .ref c), (1, .int (sI (f 568))), (3, .int (sI i))]) hx_ hb_ dX10_meanValue_40 rfl hl (by decide) rfl (fun ls hl => ?_)
          refine si_inc (lv' := [(3, .int (sI (i + 1))), (2, .int (sI (n + (f (40 + i))))), (0, .ref c), (1, .int (sI (f 568)))]) S dX10_meanValue_41 hl (k := 3) rfl (by decide) rfl (fun ls hl => ?_)
          refine lv_goto (tgt := 21) hx_ hb_ dX10_meanValue_44 (by decide) ?_
          exact ih21 (n + (f (40 + i))) (i + 1) _ _ _ (by omega) (by omega) (by rw [isum_s _ (by omega), ← hn]) hV (lv_sub hl [2, 3, 1, 0] rfl)
    exact L21 _ 0 0 _ _ _ (Nat.lt_succ_self _) (by omega) (rfl) hV (lv_sub hl [3, 2, 1, 0] rfl)
  · refine lv_dconst0 hx_ hb_ dX10_meanValue_15 ?_
    exact sr_d E hQ dX10_meanValue_16 ⟨Nat.le_of_ble_eq_true rfl, Nat.le_of_ble_eq_true rfl⟩ hV (⟨by unfold mvD; rw [if_pos (by omega)], rfl, fun x  => rfl⟩)

abbrev rmX10_laidShare : Room := { frames := 3, cells := 0, slots := 0, locals := 86 }
set_option maxHeartbeats 4000000 in
set_option maxRecDepth 100000 in
theorem kX10_laidShare (l_ : Launch) (G : sG) (b_ : Nat) (M : sM) (N : Nat) (c : Nat) (kn ch : Int) (f : sF) (hc0 : M c = some (xO c kn ch)) (hst : stC G M (c + 1) f) (hok : sOk f) : cF l_ yX10_laidShare wsX10_laidShare rmX10_laidShare G b_ M N [.ref c] (fun z_ M1 N1 => z_ = lsF f ∧ N1 = N ∧ (∀ x : Nat, M1 x = M x)) := by
  refine sE.ofF (cc := cX10_laidShare) (nL := 4) (ret := (some .float)) (by decide) rfl (Nat.le_of_ble_eq_true rfl) ?_
  intro p_ e_ s_ m_ args_ below_ meth_ c_ ls Q hQ E hl
  have E : sE p_ l_ e_ rmX10_laidShare s_ m_ args_ below_ meth_ c_ cX10_laidShare 4 wsX10_laidShare RX10 "laidShare" (some .float) G b_ M N := E
  have S := E.1
  have hx_ := S.1
  have hb_ := S.2.1
  have hK := E.2.2.2.2.1
  have hV := E.2.2.2.2.2.2
  have hl : lv_has ls 4 [(0, .ref c)] := hl
  have inX10_ : ∀ w ∈ wsX100, w ∈ wsX10_laidShare := fun _ h => List.mem_cons_of_mem _ (List.mem_append_left _ (List.mem_append_left _ (List.mem_append_right _ h)))
  have inX6_ : ∀ w ∈ wsX60, w ∈ wsX10_laidShare := fun _ h => List.mem_cons_of_mem _ (List.mem_append_left _ (List.mem_append_right _ h))
  have inX8_ : ∀ w ∈ wsX80, w ∈ wsX10_laidShare := fun _ h => List.mem_cons_of_mem _ (List.mem_append_right _ h)
  have kn0 := sOk_N hok
  refine lv_aload_n hx_ hb_ dX10_laidShare_0 rfl (lv_at hl 0 rfl) ?_
  refine sc_get (ci := 8) (C := RX10) (T := TX10) (n := 11) S hK hV inX10_ hc0 rfl 0 (by decide) (S.2.2.2.2 _ (List.mem_of_getElem? (i := 1) rfl)) rfl rfl dX10_laidShare_1 ?_
  refine sc_getN (ci := 4) (C := RX6) (T := TX6) (n := 8) S hK hV inX6_ (hst).1 rfl 0 (by decide) (E.2.2.2.2.2.1.1.2.1 _ (List.mem_of_getElem? (i := 3) rfl)) rfl rfl dX10_laidShare_4 ?_
  refine sk_VP E hV (As := []) (rest := []) (kTs l_ G b_ M N (c + 2) 7 (f 568) 70 (tvS f) ((hst).2.1)) (cwV 0 S.2.2.2.2 gX10_laidShare_X8_size rfl rfl rfl (by decide +kernel) ⟨Nat.le_of_ble_eq_true rfl, Nat.le_of_ble_eq_true rfl⟩) (ci := 6) ((hst).2.1).1 rfl rfl rfl hl.1 (Nat.le_of_ble_eq_true rfl) dX10_laidShare_7 (c1 := 0) (s1 := 0) ⟨⟨rfl, rfl⟩, by decide, by decide⟩ (fun H locs hV => ?_)
  refine lv_istore_n (lv' := [(1, .int (sI (f 568))), (0, .ref c)]) hx_ hb_ dX10_laidShare_10 rfl hl (by decide) rfl (fun ls hl => ?_)
  refine lv_iload_n hx_ hb_ dX10_laidShare_11 rfl (lv_at hl 0 rfl) ?_
  refine sz_gt (tgt := 17) S dX10_laidShare_12 (by decide) (by omega) (fun c1 => ?_) (fun c1 => ?_)
  · refine si_const S dX10_laidShare_17 ?_
    refine lv_istore_n (lv' := [(2, .int (sI 0)), (1, .int (sI (f 568))), (0, .ref c)]) hx_ hb_ dX10_laidShare_18 rfl hl (by decide) rfl (fun ls hl => ?_)
    refine si_const S dX10_laidShare_19 ?_
    refine lv_istore_n (lv' := [(3, .int (sI 0)), (2, .int (sI 0)), (1, .int (sI (f 568))), (0, .ref c)]) hx_ hb_ dX10_laidShare_20 rfl hl (by decide) rfl (fun ls hl => ?_)
    have L21 : ∀ (fuel : Nat) (n : Int) (i : Int)  (H : Heap) (locs : List Loc) (ls : Array Slot), ((4 - i).toNat) < fuel → (0 ≤ i ∧ i ≤ 4) → (n = isum i (fun d => isum (f 568) (lyT f d 0))) → sV G b_ M N s_ H locs → lv_has ls 4 [(0, .ref c), (1, .int (sI (f 568))), (2, .int (sI n)), (3, .int (sI i))] → W p_ l_ e_ rmX10_laidShare s_ m_ args_ below_ meth_ c_ H locs 0 0 Q (F0 m_ 21 ls []) := by
      intro fuel
      induction fuel with
      | zero => intro n i H locs ls hmu; exact absurd hmu (Nat.not_lt_zero _)
      | succ fuel ih21 =>
        intro n i H locs ls hmu21 hv21_0 hn  hV hl
        refine lv_iload_n hx_ hb_ dX10_laidShare_21 rfl (lv_at hl 3 rfl) ?_
        refine si_const S dX10_laidShare_22 ?_
        refine sb_ge (tgt := 43) S dX10_laidShare_23 (by decide) (by omega) (fun c2 => ?_) (fun c2 => ?_)
        · refine lv_iload_n hx_ hb_ dX10_laidShare_43 rfl (lv_at hl 2 rfl) ?_
          refine lv_i2f hx_ hb_ dX10_laidShare_44 ?_
          refine lv_iload_n hx_ hb_ dX10_laidShare_45 rfl (lv_at hl 1 rfl) ?_
          refine lv_i2f hx_ hb_ dX10_laidShare_46 ?_
          refine lv_fdiv hx_ hb_ dX10_laidShare_47 ((fp_div (by omega)).1) ?_
          exact sr_f E hQ dX10_laidShare_48 ⟨Nat.le_of_ble_eq_true rfl, Nat.le_of_ble_eq_true rfl⟩ hV (⟨by unfold lsF; rw [if_neg (by omega), ← ly_4 hok, hn, show i = 4 by omega], rfl, fun x  => rfl⟩)
        · refine lv_iload_n hx_ hb_ dX10_laidShare_26 rfl (lv_at hl 2 rfl) ?_
          refine lv_aload_n hx_ hb_ dX10_laidShare_27 rfl (lv_at hl 0 rfl) ?_
          refine sc_get (ci := 8) (C := RX10) (T := TX10) (n := 11) S hK hV inX10_ hc0 rfl 0 (by decide) (S.2.2.2.2 _ (List.mem_of_getElem? (i := 1) rfl)) rfl rfl dX10_laidShare_28 ?_
          refine lv_iload_n hx_ hb_ dX10_laidShare_31 rfl (lv_at hl 3 rfl) ?_
          refine sk_VP E hV (As := [.int (sI i)]) (rest := [.int (sI n)]) (kX6_countIn l_ G b_ M N (c + 1) f i hst (by omega) (by omega)) (cwV 1 S.2.2.2.2 gX10_laidShare_X6_countIn rfl rfl rfl (by decide +kernel) ⟨Nat.le_of_ble_eq_true rfl, Nat.le_of_ble_eq_true rfl⟩) (ci := 4) (hst).1 rfl rfl rfl hl.1 (Nat.le_of_ble_eq_true rfl) dX10_laidShare_32 (c1 := 0) (s1 := 0) ⟨⟨rfl, rfl⟩, by decide, by decide⟩ (fun H locs hV => ?_)
          refine si_add S dX10_laidShare_35 ?_
          refine lv_istore_n (lv' := [(2, .int (sI (n + (isum (f 568) (lyT f i 0))))), (0, .ref c), (1, .int (sI (f 568))), (3, .int (sI i))]) hx_ hb_ dX10_laidShare_36 rfl hl (by decide) rfl (fun ls hl => ?_)
          refine si_inc (lv' := [(3, .int (sI (i + 1))), (2, .int (sI (n + (isum (f 568) (lyT f i 0))))), (0, .ref c), (1, .int (sI (f 568)))]) S dX10_laidShare_37 hl (k := 3) rfl (by decide) rfl (fun ls hl => ?_)
          refine lv_goto (tgt := 21) hx_ hb_ dX10_laidShare_40 (by decide) ?_
          exact ih21 (n + (isum (f 568) (lyT f i 0))) (i + 1) _ _ _ (by omega) (by omega) (by rw [isum_s _ (by omega), ← hn]) hV (lv_sub hl [2, 3, 1, 0] rfl)
    exact L21 _ 0 0 _ _ _ (Nat.lt_succ_self _) (by omega) (rfl) hV (lv_sub hl [3, 2, 1, 0] rfl)
  · refine lv_fconst0 hx_ hb_ dX10_laidShare_15 ?_
    exact sr_f E hQ dX10_laidShare_16 ⟨Nat.le_of_ble_eq_true rfl, Nat.le_of_ble_eq_true rfl⟩ hV (⟨by unfold lsF; rw [if_pos (by omega)], rfl, fun x  => rfl⟩)
