/-! What stays true from the law's start on: the written texts, two statics of Throwable, two rows of numbers. -/
/-- the texts of what is thrown, by the places in the class file -/
def sStrs : List (String × Nat × String) := [("Stonecabinet", 82, "the tape is too short"), ("Stonecabinet", 115, "no such stone can come"), ("Stonecabinet", 128, "there are 10 stones"), ("Stonecabinet", 380, "no such stone"), ("Stonecabinet", 384, "a number is out of range"), ("Stonecabinet", 382, "both are the same stone"), ("Stonecabinet", 161, "40 scratches are told"), ("Stonecabinet", 175, "no such scratch"), ("Stonecabinet", 188, "no such place in a ring"), ("Stonecabinet", 209, "no such rank in an order"), ("Stonecabinet", 217, "more lies in the drawer"), ("Stonecabinet", 225, "stones of these kinds lie together"), ("Stonecabinet", 389, "no date in its range"), ("Stonecabinet", 253, "60 are told"), ("Stonecabinet", 258, "nothing such was told"), ("Stonecabinet", 260, "it was taken back"), ("Stonecabinet", 269, "no such stay"), ("Stonecabinet", 391, "the last day is ahead of the first one"), ("Stonecabinet", 301, "the stone has more light in a year"), ("Stonecabinet", 313, "20 shows are told, or it is too much light"), ("Stonecabinet", 319, "both kinds are the same"), ("Stonecabinet", 324, "8 offers are told"), ("Stonecabinet", 335, "no such offer"), ("Stonecabinet", 347, "the text has an error"), ("Stonecabinet", 359, "the catalogue is refused"), ("Stonecabinet", 368, "no such sign")]
def sDays : Nat → Int := fun j => ([0, 31, 59, 90, 120, 151, 181, 212, 243, 273, 304, 334, 365] : List Int).getD j 0
def sDig : Nat → Int := fun j => ([4782969, 531441, 59049, 6561, 729, 81, 9, 1] : List Int).getD j 0
/-- what nest mates reach: fields, constructors -/
def sNF : List (String × Nat × String × String × String) := [("Stonecabinet$Orders", 46, "Stonecabinet$State", "stones", "LStonecabinet$Table;"), ("Stonecabinet$Laying", 35, "Stonecabinet$State", "stones", "LStonecabinet$Table;"), ("Stonecabinet$Lights", 55, "Stonecabinet$State", "stones", "LStonecabinet$Table;"), ("Stonecabinet", 118, "Stonecabinet$State", "stones", "LStonecabinet$Table;"), ("Stonecabinet$Catalogue", 110, "Stonecabinet$State", "stones", "LStonecabinet$Table;"), ("Stonecabinet$Orders", 64, "Stonecabinet$State", "scratches", "LStonecabinet$Table;"), ("Stonecabinet", 158, "Stonecabinet$State", "scratches", "LStonecabinet$Table;"), ("Stonecabinet$Laying", 61, "Stonecabinet$State", "drawers", "LStonecabinet$Table;"), ("Stonecabinet", 219, "Stonecabinet$State", "drawers", "LStonecabinet$Table;"), ("Stonecabinet$Stays", 22, "Stonecabinet$State", "told", "LStonecabinet$Table;"), ("Stonecabinet", 250, "Stonecabinet$State", "told", "LStonecabinet$Table;"), ("Stonecabinet$Lights", 9, "Stonecabinet$State", "shows", "LStonecabinet$Table;"), ("Stonecabinet", 306, "Stonecabinet$State", "shows", "LStonecabinet$Table;"), ("Stonecabinet", 321, "Stonecabinet$State", "offers", "LStonecabinet$Table;"), ("Stonecabinet", 255, "Stonecabinet$State", "clock", "I")]
def sNM : List (String × Nat × MethodName) := [("Stonecabinet", 32, ⟨"Stonecabinet$Tape", "<init>", "()V"⟩), ("Stonecabinet", 39, ⟨"Stonecabinet$Catalogue", "<init>", "()V"⟩), ("Stonecabinet", 46, ⟨"Stonecabinet$Orders", "<init>", "()V"⟩), ("Stonecabinet", 53, ⟨"Stonecabinet$Laying", "<init>", "()V"⟩), ("Stonecabinet", 60, ⟨"Stonecabinet$Stays", "<init>", "()V"⟩), ("Stonecabinet", 67, ⟨"Stonecabinet$Exchange", "<init>", "()V"⟩)]
def sT (b : Nat) (U : State) (H : Heap) : Prop :=
  ((∀ q ∈ sStrs, ∃ a, vk_R q.1 q.2.1 q.2.2 a U) ∧ (∀ q ∈ sNF, va_Nw (.fieldLinkNest q.1 q.2.1 q.2.2.1 q.2.2.2.1 q.2.2.2.2 "Stonecabinet") U) ∧ (∀ q ∈ sNM, va_Nw (.methodLinkNest q.1 q.2.1 q.2.2 "Stonecabinet") U)) ∧ vx_Zq Bundle.tN "UNASSIGNED_STACK" Bundle.steD (sA b) U H ∧ vx_Zq Bundle.tN "SUPPRESSED_SENTINEL" Bundle.listD (sA b) U H ∧
  (∃ t, va_Z "Stonecabinet$Calendar" "DAYS_AHEAD_OF_MONTH" "[I" (.ref t) (sA b) U H ∧ va_T .int t 13 (fun j => .int (sI (sDays j))) (sA b) U H) ∧
  (∃ t, va_Z "Stonecabinet$Exchange" "DIGITS" "[I" (.ref t) (sA b) U H ∧ va_T .int t 8 (fun j => .int (sI (sDig j))) (sA b) U H)
theorem sT.kept {b : Nat} {U : State} {H H1 : Heap} (h : sT b U H) (hq : ∀ a : Nat, a < H.size → ¬ sA b a → H1[a]? = H[a]?) : sT b U H1 := by
  obtain ⟨h1, h2, h3, ⟨t, h4, h5⟩, ⟨u, h6, h7⟩⟩ := h
  exact ⟨h1, h2.kept hq, h3.kept hq, ⟨t, h4.kept hq, h5.kept hq⟩, ⟨u, h6.kept hq, h7.kept hq⟩⟩
theorem sT.warm {b : Nat} {s U : State} {H : Heap} (hW : s.WarmedH U.vm) (h : sT b s H) : sT b U H := by
  obtain ⟨h1, h2, h3, ⟨t, h4, h5⟩, ⟨u, h6, h7⟩⟩ := h
  refine ⟨⟨fun q hq => ?_, fun q hq => va_Nw.warmF hW (h1.2.1 q hq), fun q hq => va_Nw.warmM hW (h1.2.2 q hq)⟩, vx_Zq.moved hW.alike h2, vx_Zq.moved hW.alike h3, ⟨t, va_Z.moved hW.alike h4, va_T.moved hW.alike h5⟩, ⟨u, va_Z.moved hW.alike h6, va_T.moved hW.alike h7⟩⟩
  obtain ⟨a, ha⟩ := h1.1 q hq
  exact ⟨a, vk_R.warm hW ha⟩
theorem sT.same {b : Nat} {s U : State} {H : Heap} (hv : U.vm = s.vm) (h : sT b s H) : sT b U H := by
  have hA : s.vm.Alike U.vm := by rw [hv]; exact Vm.Alike.refl _
  obtain ⟨h1, h2, h3, ⟨t, h4, h5⟩, ⟨u, h6, h7⟩⟩ := h
  refine ⟨⟨fun q hq => ?_, fun q hq => va_Nw.same rfl hv.symm (h1.2.1 q hq), fun q hq => va_Nw.same rfl hv.symm (h1.2.2 q hq)⟩, vx_Zq.moved hA h2, vx_Zq.moved hA h3, ⟨t, va_Z.moved hA h4, va_T.moved hA h5⟩, ⟨u, va_Z.moved hA h6, va_T.moved hA h7⟩⟩
  obtain ⟨a, ha⟩ := h1.1 q hq
  exact ⟨a, vk_R.same hv ha⟩
/-- the start of a method -/
def sU (G : sG) (b : Nat) (M : sM) (N : Nat) (U : State) : Prop := sH G b M N U.heap ∧ b ≤ N ∧ va_K G.1 vwCl (sTy G) U ∧ sT b U U.heap
theorem sU.blind {G : sG} {b : Nat} {M : sM} {N : Nat} {av : List Value} : FrameBlind (va_Pc av (sU G b M N)) := by
  intro a U g mk h
  obtain ⟨h0, h1, h2, h3, h4⟩ := h
  exact ⟨h0, h1, h2, va_K.moved (u := U) (U := U.calling g mk a) (Vm.Alike.refl U.vm) h3, sT.same (s := U) (U := U.calling g mk a) rfl h4⟩
theorem sU.of {G : sG} {b : Nat} {M : sM} {N : Nat} {s : State} {H : Heap} {locs : List Loc} (hK : va_K G.1 vwCl (sTy G) s) (hV : sV G b M N s H locs) (hT : sT b s s.heap) (U : State) (hU : U.heap = H) (hW : s.WarmedH U.vm) : sU G b M N U := by
  refine ⟨by rw [hU]; exact hV.1, ?_, va_K.moved hW.alike hK, ?_⟩
  · rw [← hV.1.1]; exact Nat.le_trans hV.2.2 hV.2.1.1
  · rw [hU]
    exact sT.warm hW (hT.kept fun a h1 h2 => hV.2.1.2.1 a h1 h2)
/-- contracts: answers an int, a long, nothing -/
def cI (l : Launch) (y : MethodName) (ws : List Cond) (rm : Room) (G : sG) (b : Nat) (M : sM) (N : Nat) (av : List Value) (post : Int → sM → Nat → Prop) : Prop :=
  Met l y ws rm (va_Pc av (sU G b M N)) (va_Qi (fun r (u : sM × Nat) => ∃ z, r = sI z ∧ post z u.1 u.2) (fun u t => sH G b u.1 u.2 t.heap) (sA b)) rm.cells rm.slots (sA b)
def cL (l : Launch) (y : MethodName) (ws : List Cond) (rm : Room) (G : sG) (b : Nat) (M : sM) (N : Nat) (av : List Value) (post : Int → sM → Nat → Prop) : Prop :=
  Met l y ws rm (va_Pc av (sU G b M N)) (va_Ql (fun r (u : sM × Nat) => ∃ z, r = sL z ∧ post z u.1 u.2) (fun u t => sH G b u.1 u.2 t.heap) (sA b)) rm.cells rm.slots (sA b)
def cV (l : Launch) (y : MethodName) (ws : List Cond) (rm : Room) (G : sG) (b : Nat) (M : sM) (N : Nat) (av : List Value) (post : sM → Nat → Prop) : Prop :=
  Met l y ws rm (va_Pc av (sU G b M N)) (va_Qv (fun (u : sM × Nat) => post u.1 u.2) (fun u t => sH G b u.1 u.2 t.heap) (sA b)) rm.cells rm.slots (sA b)
/-- answers a number, and nothing is written -/
def cP (l : Launch) (y : MethodName) (ws : List Cond) (rm : Room) (G : sG) (b : Nat) (M : sM) (N : Nat) (av : List Value) (t : Int) : Prop := cI l y ws rm G b M N av (fun z M1 N1 => z = t ∧ M1 = M ∧ N1 = N)
/-- what a body stands on, from its entry on -/
def sE (p : Program) (l : Launch) (e : Env) (R : Room) (s : State) (m : MethodId) (args : Array Value) (below : List Frame) (meth : Method) (c : Code) (cc : ByteArray) (nL : Nat) (Ts : List Cond) (own nm : String) (ret : Option FieldType) (G : sG) (b : Nat) (M : sM) (N : Nat) : Prop :=
  CallFix p m c cc nL s args Ts own ∧ meth.sig.returnType = ret ∧ meth.locks = false ∧ meth.name = nm ∧ va_K G.1 vwCl (sTy G) s ∧ sT b s s.heap ∧ sV G b M N s s.heap []
/-- what is owed at the end -/
def sQi (G : sG) (b : Nat) (below : List Frame) (post : Int → sM → Nat → Prop) (args : Array Value) (s : State) (mc ms : Nat) : State → Prop := MQ below (va_Qi (fun r (u : sM × Nat) => ∃ z, r = sI z ∧ post z u.1 u.2) (fun u t => sH G b u.1 u.2 t.heap) (sA b)) args s mc ms (sA b)
def sQl (G : sG) (b : Nat) (below : List Frame) (post : Int → sM → Nat → Prop) (args : Array Value) (s : State) (mc ms : Nat) : State → Prop := MQ below (va_Ql (fun r (u : sM × Nat) => ∃ z, r = sL z ∧ post z u.1 u.2) (fun u t => sH G b u.1 u.2 t.heap) (sA b)) args s mc ms (sA b)
def sQv (G : sG) (b : Nat) (below : List Frame) (post : sM → Nat → Prop) (args : Array Value) (s : State) (mc ms : Nat) : State → Prop := MQ below (va_Qv (fun (u : sM × Nat) => post u.1 u.2) (fun u t => sH G b u.1 u.2 t.heap) (sA b)) args s mc ms (sA b)
section SE
variable {l : Launch} {y : MethodName} {ws ws' : List Cond} {rm : Room} {G : sG} {b : Nat} {M : sM} {N : Nat} {av : List Value}
theorem sE.of {Qc : Array Value → State → Outcome → State → Prop} {cc : ByteArray} {nL : Nat} {ret : Option FieldType} (hy : plainName y.cls = true) (hw : ws = Cond.code y cc nL ret :: ws') (hL : (lg_sl av).length ≤ nL)
    (body : ∀ (p : Program) (e : Env) (s : State) (m : MethodId) (args : Array Value) (below : List Frame) (meth : Method) (c : Code) (ls : Array Slot) (Q : State → Prop), Q = MQ below Qc args s rm.cells rm.slots (sA b) → sE p l e rm s m args below meth c cc nL ws y.cls y.name ret G b M N → lv_has ls nL (lv_args 0 av) → W p l e rm s m args below meth c s.heap [] 0 0 Q (F0 m 0 ls [])) :
    Met l y ws rm (va_Pc av (sU G b M N)) Qc rm.cells rm.slots (sA b) := by
  refine Met.ofW (cc := cc) (maxL := nL) (ret := ret) hy hw ?_
  intro p e s m args below meth c s₁ B hml hv
  obtain ⟨rfl, hH, hbN, hK, hT⟩ := hv
  have hl := lv_entry av (n := nL) hL
  rw [lg_entry_eq]
  exact body p e s m av.toArray below meth c _ _ rfl ⟨⟨B.exec, B.bytes, hml, findClass_of_methodNamed B.named, atoms_spec (ws := ws) B.pre⟩, B.returns, B.notSynchronized, (name_of_methodNamed B.named B.method).1, hK, hT, hH, va_S.rf, hH.1 ▸ hbN⟩ hl
theorem sE.ofI {post : Int → sM → Nat → Prop} {cc : ByteArray} {nL : Nat} {ret : Option FieldType} (hy : plainName y.cls = true) (hw : ws = Cond.code y cc nL ret :: ws') (hL : (lg_sl av).length ≤ nL)
    (body : ∀ (p : Program) (e : Env) (s : State) (m : MethodId) (args : Array Value) (below : List Frame) (meth : Method) (c : Code) (ls : Array Slot) (Q : State → Prop), Q = sQi G b below post args s rm.cells rm.slots → sE p l e rm s m args below meth c cc nL ws y.cls y.name ret G b M N → lv_has ls nL (lv_args 0 av) → W p l e rm s m args below meth c s.heap [] 0 0 Q (F0 m 0 ls [])) :
    cI l y ws rm G b M N av post := sE.of hy hw hL body
theorem sE.ofL {post : Int → sM → Nat → Prop} {cc : ByteArray} {nL : Nat} {ret : Option FieldType} (hy : plainName y.cls = true) (hw : ws = Cond.code y cc nL ret :: ws') (hL : (lg_sl av).length ≤ nL)
    (body : ∀ (p : Program) (e : Env) (s : State) (m : MethodId) (args : Array Value) (below : List Frame) (meth : Method) (c : Code) (ls : Array Slot) (Q : State → Prop), Q = sQl G b below post args s rm.cells rm.slots → sE p l e rm s m args below meth c cc nL ws y.cls y.name ret G b M N → lv_has ls nL (lv_args 0 av) → W p l e rm s m args below meth c s.heap [] 0 0 Q (F0 m 0 ls [])) :
    cL l y ws rm G b M N av post := sE.of hy hw hL body
theorem sE.ofV {post : sM → Nat → Prop} {cc : ByteArray} {nL : Nat} {ret : Option FieldType} (hy : plainName y.cls = true) (hw : ws = Cond.code y cc nL ret :: ws') (hL : (lg_sl av).length ≤ nL)
    (body : ∀ (p : Program) (e : Env) (s : State) (m : MethodId) (args : Array Value) (below : List Frame) (meth : Method) (c : Code) (ls : Array Slot) (Q : State → Prop), Q = sQv G b below post args s rm.cells rm.slots → sE p l e rm s m args below meth c cc nL ws y.cls y.name ret G b M N → lv_has ls nL (lv_args 0 av) → W p l e rm s m args below meth c s.heap [] 0 0 Q (F0 m 0 ls [])) :
    cV l y ws rm G b M N av post := sE.of hy hw hL body
end SE
section SR
variable {p : Program} {l : Launch} {e : Env} {R : Room} {s : State} {m : MethodId} {args : Array Value} {below : List Frame} {meth : Method} {c : Code} {H : Heap} {locs : List Loc} {cells slots : Nat} {Q : State → Prop}
variable {cc : ByteArray} {nL : Nat} {Ts : List Cond} {own nm : String} {pc : Nat} {ls : Array Slot} {rest : List Value} {ret : Option FieldType}
variable {G : sG} {b : Nat} {M M0 : sM} {N N0 : Nat}
/-! ends -/
theorem sr_i (E : sE p l e R s m args below meth c cc nL Ts own nm (some .int) G b M0 N0) {post : Int → sM → Nat → Prop} {z : Int} {mc ms : Nat} (hQ : Q = sQi G b below post args s mc ms) (hdg : decode cc pc = .ok (.ireturn, 1)) (hc : cells ≤ mc ∧ slots ≤ ms) (hV : sV G b M N s H locs) (hp : post z M N) :
    W p l e R s m args below meth c H locs cells slots Q (F0 m pc ls [.int (sI z)]) := by
  rw [hQ]
  exact W.widen hc.1 hc.2 (W.iret E.1.1 E.1.2.1 E.2.1 (fun t ht hW => ⟨⟨_, (M, N), rfl, ⟨z, rfl, hp⟩, by show sH G b M N t.heap; rw [ht]; exact hV.1⟩, hV.2.1.F ht⟩) hV.2.1.2.2 hdg (hlocks := E.2.2.1))
theorem sr_z (E : sE p l e R s m args below meth c cc nL Ts own nm (some .boolean) G b M0 N0) {post : Int → sM → Nat → Prop} {z : Int} {mc ms : Nat} (hQ : Q = sQi G b below post args s mc ms) (hz : z = 0 ∨ z = 1) (hdg : decode cc pc = .ok (.ireturn, 1)) (hc : cells ≤ mc ∧ slots ≤ ms) (hV : sV G b M N s H locs) (hp : post z M N) :
    W p l e R s m args below meth c H locs cells slots Q (F0 m pc ls [.int (sI z)]) := by
  rw [hQ]
  exact W.widen hc.1 hc.2 (W.zret E.1.1 E.1.2.1 E.2.1 (by rcases hz with rfl | rfl <;> decide) (fun t ht hW => ⟨⟨_, (M, N), rfl, ⟨z, rfl, hp⟩, by show sH G b M N t.heap; rw [ht]; exact hV.1⟩, hV.2.1.F ht⟩) hV.2.1.2.2 hdg (hlocks := E.2.2.1))
theorem sr_c (E : sE p l e R s m args below meth c cc nL Ts own nm (some .char) G b M0 N0) {post : Int → sM → Nat → Prop} {z : Int} {mc ms : Nat} (hQ : Q = sQi G b below post args s mc ms) (hz : 0 ≤ z ∧ z < 65536) (hdg : decode cc pc = .ok (.ireturn, 1)) (hc : cells ≤ mc ∧ slots ≤ ms) (hV : sV G b M N s H locs) (hp : post z M N) :
    W p l e R s m args below meth c H locs cells slots Q (F0 m pc ls [.int (sI z)]) := by
  rw [hQ]
  exact W.widen hc.1 hc.2 (W.zret E.1.1 E.1.2.1 E.2.1 (by
    have h : sI z = nI z.toNat := by
      show Int32.ofInt z = Int32.ofNat z.toNat
      rw [← Int32.ofInt_eq_ofNat]
      congr 1
      omega
    rw [h]
    exact (pk_charN (by omega)).1) (fun t ht hW => ⟨⟨_, (M, N), rfl, ⟨z, rfl, hp⟩, by show sH G b M N t.heap; rw [ht]; exact hV.1⟩, hV.2.1.F ht⟩) hV.2.1.2.2 hdg (hlocks := E.2.2.1))
theorem sr_l (E : sE p l e R s m args below meth c cc nL Ts own nm (some .long) G b M0 N0) {post : Int → sM → Nat → Prop} {z : Int} {mc ms : Nat} (hQ : Q = sQl G b below post args s mc ms) (hdg : decode cc pc = .ok (.lreturn, 1)) (hc : cells ≤ mc ∧ slots ≤ ms) (hV : sV G b M N s H locs) (hp : post z M N) :
    W p l e R s m args below meth c H locs cells slots Q (F0 m pc ls [.long (sL z)]) := by
  rw [hQ]
  exact W.widen hc.1 hc.2 (W.lret E.1.1 E.1.2.1 E.2.1 (fun t ht hW => ⟨⟨_, (M, N), rfl, ⟨z, rfl, hp⟩, by show sH G b M N t.heap; rw [ht]; exact hV.1⟩, hV.2.1.F ht⟩) hV.2.1.2.2 hdg (hlocks := E.2.2.1))
theorem sr_v (E : sE p l e R s m args below meth c cc nL Ts own nm none G b M0 N0) {post : sM → Nat → Prop} {mc ms : Nat} (hQ : Q = sQv G b below post args s mc ms) (hdg : decode cc pc = .ok (.return_, 1)) (hc : cells ≤ mc ∧ slots ≤ ms) (hV : sV G b M N s H locs) (hp : post M N) :
    W p l e R s m args below meth c H locs cells slots Q (F0 m pc ls []) := by
  rw [hQ]
  exact W.widen hc.1 hc.2 (W.vret E.1.1 E.1.2.1 E.2.1 (fun t ht hW => ⟨⟨(M, N), rfl, hp, by show sH G b M N t.heap; rw [ht]; exact hV.1⟩, hV.2.1.F ht⟩) hV.2.1.2.2 hdg (hlocks := E.2.2.1))
/-! calls -/
variable {y : MethodName} {bytes : ByteArray} {maxL mc ms n index : Nat} {yret : Option FieldType} {ws : List Cond} {rm : Room} {C : String} {a : Nat} {As stk : List Value}
theorem sH.recv {H : Heap} (hK : va_K G.1 vwCl (sTy G) s) (h : sH G b M N H) {ci : Nat} {q : vw_C} {fs : List Value} (hc : vwCl[ci]? = some q) (he : M a = some (sObj ci fs)) : ∃ cell : Cell, H[a]? = some cell ∧ cell.vm.isStatics = false ∧ s.vm.findClass q.1 = some cell.cls := by
  obtain ⟨q', h1, cell, g1, g2, g3, -⟩ := (h.2 a _ he).2
  exact ⟨cell, g1, by rw [g3]; rfl, by rw [g2]; exact (hK.1 ci q hc).2.1⟩
theorem sk_Vi (E : sE p l e R s m args below meth c cc nL Ts own nm ret G b M0 N0) (hV : sV G b M N s H locs) {post : Int → sM → Nat → Prop} (hM : cI l y ws rm G b M N (.ref a :: As) post) (cw : CallW R s args own C index y bytes maxL yret ws rm rm.cells rm.slots n) {ci k : Nat} {T : u_T} {fs : List Value} (he : M a = some (sObj ci fs)) (hc : vwCl[ci]? = some (C, T, k)) (hst : stk = As.reverse ++ .ref a :: rest) (hn : As.length = n) (hsz : ls.size = nL) (hroom : (rest.map fun v => v.category).sum ≤ 8) (hdg : decode cc pc = .ok (.invokevirtual index, 3)) {c1 s1 : Nat} (hf : (cells + rm.cells = c1 ∧ slots + rm.slots = s1) ∧ c1 ≤ R.cells ∧ s1 ≤ R.slots)
    (kk : ∀ (z : Int) (M1 : sM) (N1 : Nat) (H1 : Heap) (locs1 : List Loc), post z M1 N1 → sV G b M1 N1 s H1 locs1 → W p l e R s m args below meth c H1 locs1 c1 s1 Q (F0 m (pc + 3) ls (.int (sI z) :: rest))) : W p l e R s m args below meth c H locs cells slots Q (F0 m pc ls stk) :=
  va_calli (va_runV E.1 hM cw ⟨sU.blind, sH.recv E.2.2.2.2.1 hV.1 hc he, fun U hU hW => ⟨rfl, sU.of E.2.2.2.2.1 hV E.2.2.2.2.2.1 U hU hW⟩⟩ rfl hn hsz hst (lv_room hroom) hdg (by rw [hf.1.1, hf.1.2]; exact hf.2)) hV.2.1 (fun q _ h => h) (fun q h => h) (fun r u t H1 locs1 ht hvm hp hB hz hk hS1 => by
    obtain ⟨z, rfl, hp⟩ := hp
    exact W.cs hf.1.1 hf.1.2 (kk z u.1 u.2 H1 locs1 hp ⟨ht ▸ hB, hS1, hV.2.2⟩))
theorem sk_Vl (E : sE p l e R s m args below meth c cc nL Ts own nm ret G b M0 N0) (hV : sV G b M N s H locs) {post : Int → sM → Nat → Prop} (hM : cL l y ws rm G b M N (.ref a :: As) post) (cw : CallW R s args own C index y bytes maxL yret ws rm rm.cells rm.slots n) {ci k : Nat} {T : u_T} {fs : List Value} (he : M a = some (sObj ci fs)) (hc : vwCl[ci]? = some (C, T, k)) (hst : stk = As.reverse ++ .ref a :: rest) (hn : As.length = n) (hsz : ls.size = nL) (hroom : (rest.map fun v => v.category).sum ≤ 8) (hdg : decode cc pc = .ok (.invokevirtual index, 3)) {c1 s1 : Nat} (hf : (cells + rm.cells = c1 ∧ slots + rm.slots = s1) ∧ c1 ≤ R.cells ∧ s1 ≤ R.slots)
    (kk : ∀ (z : Int) (M1 : sM) (N1 : Nat) (H1 : Heap) (locs1 : List Loc), post z M1 N1 → sV G b M1 N1 s H1 locs1 → W p l e R s m args below meth c H1 locs1 c1 s1 Q (F0 m (pc + 3) ls (.long (sL z) :: rest))) : W p l e R s m args below meth c H locs cells slots Q (F0 m pc ls stk) :=
  va_calll (va_runV E.1 hM cw ⟨sU.blind, sH.recv E.2.2.2.2.1 hV.1 hc he, fun U hU hW => ⟨rfl, sU.of E.2.2.2.2.1 hV E.2.2.2.2.2.1 U hU hW⟩⟩ rfl hn hsz hst (lv_room hroom) hdg (by rw [hf.1.1, hf.1.2]; exact hf.2)) hV.2.1 (fun q _ h => h) (fun q h => h) (fun r u t H1 locs1 ht hvm hp hB hz hk hS1 => by
    obtain ⟨z, rfl, hp⟩ := hp
    exact W.cs hf.1.1 hf.1.2 (kk z u.1 u.2 H1 locs1 hp ⟨ht ▸ hB, hS1, hV.2.2⟩))
theorem sk_Vv (E : sE p l e R s m args below meth c cc nL Ts own nm ret G b M0 N0) (hV : sV G b M N s H locs) {post : sM → Nat → Prop} (hM : cV l y ws rm G b M N (.ref a :: As) post) (cw : CallW R s args own C index y bytes maxL yret ws rm rm.cells rm.slots n) {ci k : Nat} {T : u_T} {fs : List Value} (he : M a = some (sObj ci fs)) (hc : vwCl[ci]? = some (C, T, k)) (hst : stk = As.reverse ++ .ref a :: rest) (hn : As.length = n) (hsz : ls.size = nL) (hroom : (rest.map fun v => v.category).sum ≤ 8) (hdg : decode cc pc = .ok (.invokevirtual index, 3)) {c1 s1 : Nat} (hf : (cells + rm.cells = c1 ∧ slots + rm.slots = s1) ∧ c1 ≤ R.cells ∧ s1 ≤ R.slots)
    (kk : ∀ (M1 : sM) (N1 : Nat) (H1 : Heap) (locs1 : List Loc), post M1 N1 → sV G b M1 N1 s H1 locs1 → W p l e R s m args below meth c H1 locs1 c1 s1 Q (F0 m (pc + 3) ls rest)) : W p l e R s m args below meth c H locs cells slots Q (F0 m pc ls stk) :=
  va_callv (va_runV E.1 hM cw ⟨sU.blind, sH.recv E.2.2.2.2.1 hV.1 hc he, fun U hU hW => ⟨rfl, sU.of E.2.2.2.2.1 hV E.2.2.2.2.2.1 U hU hW⟩⟩ rfl hn hsz hst (lv_room hroom) hdg (by rw [hf.1.1, hf.1.2]; exact hf.2)) hV.2.1 (fun q _ h => h) (fun q h => h) (fun u t H1 locs1 ht hvm hp hB hz hk hS1 => W.cs hf.1.1 hf.1.2 (kk u.1 u.2 H1 locs1 hp ⟨ht ▸ hB, hS1, hV.2.2⟩))
theorem sk_Si (E : sE p l e R s m args below meth c cc nL Ts own nm ret G b M0 N0) (hV : sV G b M N s H locs) {post : Int → sM → Nat → Prop} (hM : cI l y ws rm G b M N As post) (cw : CallB R s args own index y bytes maxL yret ws rm rm.cells rm.slots n ∧ (Cond.static y).before args s = true) (hst : stk = As.reverse ++ rest) (hn : As.length = n) (hsz : ls.size = nL) (hroom : (rest.map fun v => v.category).sum ≤ 8) (hdg : decode cc pc = .ok (.invokestatic index, 3)) {c1 s1 : Nat} (hf : (cells + rm.cells = c1 ∧ slots + rm.slots = s1) ∧ c1 ≤ R.cells ∧ s1 ≤ R.slots)
    (kk : ∀ (z : Int) (M1 : sM) (N1 : Nat) (H1 : Heap) (locs1 : List Loc), post z M1 N1 → sV G b M1 N1 s H1 locs1 → W p l e R s m args below meth c H1 locs1 c1 s1 Q (F0 m (pc + 3) ls (.int (sI z) :: rest))) : W p l e R s m args below meth c H locs cells slots Q (F0 m pc ls stk) :=
  va_calli (va_runS E.1 hM cw ⟨sU.blind, fun U hU hW => ⟨rfl, sU.of E.2.2.2.2.1 hV E.2.2.2.2.2.1 U hU hW⟩⟩ rfl hn hsz hst (lv_room hroom) hdg (by rw [hf.1.1, hf.1.2]; exact hf.2)) hV.2.1 (fun q _ h => h) (fun q h => h) (fun r u t H1 locs1 ht hvm hp hB hz hk hS1 => by
    obtain ⟨z, rfl, hp⟩ := hp
    exact W.cs hf.1.1 hf.1.2 (kk z u.1 u.2 H1 locs1 hp ⟨ht ▸ hB, hS1, hV.2.2⟩))
theorem sk_I (E : sE p l e R s m args below meth c cc nL Ts own nm ret G b M0 N0) (hV : sV G b M N s H locs) {post : sM → Nat → Prop} (hM : cV l y ws rm G b M N (.ref a :: As) post) (cw : CallB R s args own index y bytes maxL none ws rm rm.cells rm.slots n ∧ y.name = "<init>" ∧ (Cond.instanceMethod y).before args s = true) (hst : stk = As.reverse ++ .ref a :: rest) (hn : As.length = n) (hsz : ls.size = nL) (hroom : (rest.map fun v => v.category).sum ≤ 8) (hdg : decode cc pc = .ok (.invokespecial index, 3)) {c1 s1 : Nat} (hf : (cells + rm.cells = c1 ∧ slots + rm.slots = s1) ∧ c1 ≤ R.cells ∧ s1 ≤ R.slots)
    (kk : ∀ (M1 : sM) (N1 : Nat) (H1 : Heap) (locs1 : List Loc), post M1 N1 → sV G b M1 N1 s H1 locs1 → W p l e R s m args below meth c H1 locs1 c1 s1 Q (F0 m (pc + 3) ls rest)) : W p l e R s m args below meth c H locs cells slots Q (F0 m pc ls stk) :=
  va_callv (va_runI E.1 hM cw ⟨sU.blind, fun U hU hW => ⟨rfl, sU.of E.2.2.2.2.1 hV E.2.2.2.2.2.1 U hU hW⟩⟩ rfl hn hsz hst (lv_room hroom) hdg (by rw [hf.1.1, hf.1.2]; exact hf.2)) hV.2.1 (fun q _ h => h) (fun q h => h) (fun u t H1 locs1 ht hvm hp hB hz hk hS1 => W.cs hf.1.1 hf.1.2 (kk u.1 u.2 H1 locs1 hp ⟨ht ▸ hB, hS1, hV.2.2⟩))
theorem sk_VP (E : sE p l e R s m args below meth c cc nL Ts own nm ret G b M0 N0) (hV : sV G b M N s H locs) {t : Int} (hM : cP l y ws rm G b M N (.ref a :: As) t) (cw : CallW R s args own C index y bytes maxL yret ws rm rm.cells rm.slots n) {ci k : Nat} {T : u_T} {fs : List Value} (he : M a = some (sObj ci fs)) (hc : vwCl[ci]? = some (C, T, k)) (hst : stk = As.reverse ++ .ref a :: rest) (hn : As.length = n) (hsz : ls.size = nL) (hroom : (rest.map fun v => v.category).sum ≤ 8) (hdg : decode cc pc = .ok (.invokevirtual index, 3)) {c1 s1 : Nat} (hf : (cells + rm.cells = c1 ∧ slots + rm.slots = s1) ∧ c1 ≤ R.cells ∧ s1 ≤ R.slots)
    (kk : ∀ (H1 : Heap) (locs1 : List Loc), sV G b M N s H1 locs1 → W p l e R s m args below meth c H1 locs1 c1 s1 Q (F0 m (pc + 3) ls (.int (sI t) :: rest))) : W p l e R s m args below meth c H locs cells slots Q (F0 m pc ls stk) :=
  sk_Vi E hV hM cw he hc hst hn hsz hroom hdg hf (fun z M1 N1 H1 locs1 hp hV1 => by
    obtain ⟨e1, e2, e3⟩ := hp
    rw [e2, e3] at hV1
    rw [e1]
    exact kk H1 locs1 hV1)
theorem sk_SP (E : sE p l e R s m args below meth c cc nL Ts own nm ret G b M0 N0) (hV : sV G b M N s H locs) {t : Int} (hM : cP l y ws rm G b M N As t) (cw : CallB R s args own index y bytes maxL yret ws rm rm.cells rm.slots n ∧ (Cond.static y).before args s = true) (hst : stk = As.reverse ++ rest) (hn : As.length = n) (hsz : ls.size = nL) (hroom : (rest.map fun v => v.category).sum ≤ 8) (hdg : decode cc pc = .ok (.invokestatic index, 3)) {c1 s1 : Nat} (hf : (cells + rm.cells = c1 ∧ slots + rm.slots = s1) ∧ c1 ≤ R.cells ∧ s1 ≤ R.slots)
    (kk : ∀ (H1 : Heap) (locs1 : List Loc), sV G b M N s H1 locs1 → W p l e R s m args below meth c H1 locs1 c1 s1 Q (F0 m (pc + 3) ls (.int (sI t) :: rest))) : W p l e R s m args below meth c H locs cells slots Q (F0 m pc ls stk) :=
  sk_Si E hV hM cw hst hn hsz hroom hdg hf (fun z M1 N1 H1 locs1 hp hV1 => by
    obtain ⟨e1, e2, e3⟩ := hp
    rw [e2, e3] at hV1
    rw [e1]
    exact kk H1 locs1 hV1)
end SR
theorem sMet_mono {l : Launch} {y : MethodName} {ws : List Cond} {rm : Room} {Pc : Array Value → State → Prop} {Qc Qc' : Array Value → State → Outcome → State → Prop} {mc ms : Nat} {fr : Addr → Prop} (h : Met l y ws rm Pc Qc mc ms fr) (hq : ∀ a s o t, Qc a s o t → Qc' a s o t) : Met l y ws rm Pc Qc' mc ms fr := by
  unfold Met at h ⊢
  exact MetFree.mono h (fun _ _ q => q) (fun _ _ _ _ _ q => q) (fun a s o t _ q => ⟨hq _ _ _ _ q.1, q.2⟩)
section MO
variable {l : Launch} {y : MethodName} {ws : List Cond} {rm : Room} {G : sG} {b : Nat} {M : sM} {N : Nat} {av : List Value}
theorem cI.mono {post post' : Int → sM → Nat → Prop} (h : cI l y ws rm G b M N av post) (hp : ∀ z M1 N1, post z M1 N1 → post' z M1 N1) : cI l y ws rm G b M N av post' := by
  unfold cI at h ⊢
  refine sMet_mono h (fun a s o t q => ?_)
  obtain ⟨⟨r, u, h1, ⟨z, h2, h3⟩, h4⟩, h5⟩ := q
  exact ⟨⟨r, u, h1, ⟨z, h2, hp _ _ _ h3⟩, h4⟩, h5⟩
theorem cL.mono {post post' : Int → sM → Nat → Prop} (h : cL l y ws rm G b M N av post) (hp : ∀ z M1 N1, post z M1 N1 → post' z M1 N1) : cL l y ws rm G b M N av post' := by
  unfold cL at h ⊢
  refine sMet_mono h (fun a s o t q => ?_)
  obtain ⟨⟨r, u, h1, ⟨z, h2, h3⟩, h4⟩, h5⟩ := q
  exact ⟨⟨r, u, h1, ⟨z, h2, hp _ _ _ h3⟩, h4⟩, h5⟩
theorem cV.mono {post post' : sM → Nat → Prop} (h : cV l y ws rm G b M N av post) (hp : ∀ M1 N1, post M1 N1 → post' M1 N1) : cV l y ws rm G b M N av post' := by
  unfold cV at h ⊢
  refine sMet_mono h (fun a s o t q => ?_)
  obtain ⟨⟨u, h1, h3, h4⟩, h5⟩ := q
  exact ⟨⟨u, h1, hp _ _ h3, h4⟩, h5⟩
end MO
