/-! The law's wrappers: what the class throws is caught. -/
section YE
variable {l : Launch} {y : MethodName} {ws ws' : List Cond} {rm : Room} {G : sG} {b : Nat} {M : sM} {N : Nat} {av : List Value}
theorem yE.ofI {post : Int → sM → Nat → Prop} {cc : ByteArray} {nL : Nat} {ret : Option FieldType} {hh : List (Nat × Nat × Nat × Nat)} (hy : plainName y.cls = true) (hw : ws = Cond.codeWith y cc nL ret hh :: ws') (hL : (lg_sl av).length ≤ nL)
    (body : ∀ (p : Program) (e : Env) (s : State) (m : MethodId) (args : Array Value) (below : List Frame) (meth : Method) (c : Code) (ls : Array Slot) (Q : State → Prop), Q = vx_MQ below (xcQi b G post) (xcX G b (fun _ _ _ => False)) args s rm.cells rm.slots (sA b) → sE p l e rm s m args below meth c cc nL ws y.cls y.name ret G b M N → xcF s → c.exceptionTable.toList = tableOf hh → lv_has ls nL (lv_args 0 av) → W p l e rm s m args below meth c s.heap [] 0 0 Q (F0 m 0 ls [])) :
    xcI l y ws rm G b M N av post (fun _ _ _ => False) := by
  unfold xcI
  refine vx_ofWH (cc := cc) (maxL := nL) (ret := ret) (hh := hh) hy hw ?_
  intro p e s m args below meth c s₁ B hml hv
  obtain ⟨rfl, ⟨hH, hbN, hK, hT⟩, hF⟩ := hv
  have hl := lv_entry av (n := nL) hL
  have hxt := vx_table (x := y) B (atoms_spec (ws := ws) B.pre _ (by rw [hw]; exact List.mem_cons_self))
  rw [lg_entry_eq]
  exact body p e s m av.toArray below meth c _ _ rfl ⟨⟨B.exec, B.bytes, hml, findClass_of_methodNamed B.named, atoms_spec (ws := ws) B.pre⟩, B.returns, B.notSynchronized, (name_of_methodNamed B.named B.method).1, hK, hT, hH, va_S.rf, hH.1 ▸ hbN⟩ hF hxt hl
end YE
section YR
variable {p : Program} {l : Launch} {e : Env} {R : Room} {s : State} {m : MethodId} {args : Array Value} {below : List Frame} {meth : Method} {c : Code} {H : Heap} {locs : List Loc} {cells slots : Nat} {Q : State → Prop}
variable {cc : ByteArray} {nL : Nat} {Ts : List Cond} {own nm : String} {pc : Nat} {ls : Array Slot} {rest : List Value} {ret : Option FieldType}
variable {G : sG} {b : Nat} {M M0 : sM} {N N0 : Nat}
variable {y : MethodName} {bytes : ByteArray} {maxL n index : Nat} {yret : Option FieldType} {ws : List Cond} {rm : Room} {C : String} {a : Nat} {As stk : List Value}
theorem yk_Vi (E : sE p l e R s m args below meth c cc nL Ts own nm ret G b M0 N0) (hF : xcF s) (hV : sV G b M N s H locs) {post : Int → sM → Nat → Prop} {pY : String → sM → Nat → Prop} (hM : xcI l y ws rm G b M N (.ref a :: As) post pY) (cw : CallW R s args own C index y bytes maxL yret ws rm rm.cells rm.slots n) {ci k : Nat} {T : u_T} {fs : List Value} (he : M a = some (sObj ci fs)) (hc : vwCl[ci]? = some (C, T, k)) (hst : stk = As.reverse ++ .ref a :: rest) (hn : As.length = n) (hsz : ls.size = nL) (hroom : (rest.map fun v => v.category).sum ≤ 8) (hdg : decode cc pc = .ok (.invokevirtual index, 3)) {c1 s1 : Nat} (hf : (cells + rm.cells = c1 ∧ slots + rm.slots = s1) ∧ c1 ≤ R.cells ∧ s1 ≤ R.slots)
    (kx : ∀ (E9 : String) (M1 : sM) (N1 : Nat) (H1 : Heap) (locs1 : List Loc) (q9 : Addr) (ce : Cell), pY E9 M1 N1 → sV G b M1 N1 s H1 locs1 → H1[q9]? = some ce → ce.vm = .none → s.vm.findClass E9 = some ce.cls → vx_W p l e R s m args below meth c H1 locs1 c1 s1 Q (F0 m pc ls rest) q9)
    (kk : ∀ (z : Int) (M1 : sM) (N1 : Nat) (H1 : Heap) (locs1 : List Loc), post z M1 N1 → sV G b M1 N1 s H1 locs1 → W p l e R s m args below meth c H1 locs1 c1 s1 Q (F0 m (pc + 3) ls (.int (sI z) :: rest))) : W p l e R s m args below meth c H locs cells slots Q (F0 m pc ls stk) :=
  vx_calli (vx_runV E.1 hM cw ⟨xcU.blind, sH.recv E.2.2.2.2.1 hV.1 hc he, fun U hU hW => ⟨rfl, xcU.of E.2.2.2.2.1 hV E.2.2.2.2.2.1 hF U hU hW⟩⟩ rfl hn hsz hst (lv_room hroom) hdg (by rw [hf.1.1, hf.1.2]; exact hf.2)) hV.2.1 (fun q _ h => h) (fun q h => h) (fun q _ h => h)
    (fun E9 ce q9 u t H1 locs1 ht hvm hp hB hz hk hS1 hce hcv hcl => by
      rw [hf.1.1, hf.1.2]
      exact kx E9 u.2.1 u.2.2 H1 locs1 q9 ce (by rw [hB.1]; exact hp) ⟨ht ▸ hB.2, hS1, hV.2.2⟩ hce hcv hcl)
    (fun r u t H1 locs1 ht hvm hp hB hz hk hS1 => by
      obtain ⟨z, rfl, hp⟩ := hp
      exact W.cs hf.1.1 hf.1.2 (kk z u.1 u.2 H1 locs1 hp ⟨ht ▸ hB, hS1, hV.2.2⟩))
theorem yk_Vl (E : sE p l e R s m args below meth c cc nL Ts own nm ret G b M0 N0) (hF : xcF s) (hV : sV G b M N s H locs) {post : Int → sM → Nat → Prop} {pY : String → sM → Nat → Prop} (hM : xcL l y ws rm G b M N (.ref a :: As) post pY) (cw : CallW R s args own C index y bytes maxL yret ws rm rm.cells rm.slots n) {ci k : Nat} {T : u_T} {fs : List Value} (he : M a = some (sObj ci fs)) (hc : vwCl[ci]? = some (C, T, k)) (hst : stk = As.reverse ++ .ref a :: rest) (hn : As.length = n) (hsz : ls.size = nL) (hroom : (rest.map fun v => v.category).sum ≤ 8) (hdg : decode cc pc = .ok (.invokevirtual index, 3)) {c1 s1 : Nat} (hf : (cells + rm.cells = c1 ∧ slots + rm.slots = s1) ∧ c1 ≤ R.cells ∧ s1 ≤ R.slots)
    (kx : ∀ (E9 : String) (M1 : sM) (N1 : Nat) (H1 : Heap) (locs1 : List Loc) (q9 : Addr) (ce : Cell), pY E9 M1 N1 → sV G b M1 N1 s H1 locs1 → H1[q9]? = some ce → ce.vm = .none → s.vm.findClass E9 = some ce.cls → vx_W p l e R s m args below meth c H1 locs1 c1 s1 Q (F0 m pc ls rest) q9)
    (kk : ∀ (z : Int) (M1 : sM) (N1 : Nat) (H1 : Heap) (locs1 : List Loc), post z M1 N1 → sV G b M1 N1 s H1 locs1 → W p l e R s m args below meth c H1 locs1 c1 s1 Q (F0 m (pc + 3) ls (.long (sL z) :: rest))) : W p l e R s m args below meth c H locs cells slots Q (F0 m pc ls stk) :=
  vx_calll (vx_runV E.1 hM cw ⟨xcU.blind, sH.recv E.2.2.2.2.1 hV.1 hc he, fun U hU hW => ⟨rfl, xcU.of E.2.2.2.2.1 hV E.2.2.2.2.2.1 hF U hU hW⟩⟩ rfl hn hsz hst (lv_room hroom) hdg (by rw [hf.1.1, hf.1.2]; exact hf.2)) hV.2.1 (fun q _ h => h) (fun q h => h) (fun q _ h => h)
    (fun E9 ce q9 u t H1 locs1 ht hvm hp hB hz hk hS1 hce hcv hcl => by
      rw [hf.1.1, hf.1.2]
      exact kx E9 u.2.1 u.2.2 H1 locs1 q9 ce (by rw [hB.1]; exact hp) ⟨ht ▸ hB.2, hS1, hV.2.2⟩ hce hcv hcl)
    (fun r u t H1 locs1 ht hvm hp hB hz hk hS1 => by
      obtain ⟨z, rfl, hp⟩ := hp
      exact W.cs hf.1.1 hf.1.2 (kk z u.1 u.2 H1 locs1 hp ⟨ht ▸ hB, hS1, hV.2.2⟩))
theorem yk_Si (E : sE p l e R s m args below meth c cc nL Ts own nm ret G b M0 N0) (hF : xcF s) (hV : sV G b M N s H locs) {post : Int → sM → Nat → Prop} {hh : List (Nat × Nat × Nat × Nat)} (hM : xcI l y ws rm G b M N As post (fun _ _ _ => False)) (cw : vx_CSW R s args own index y bytes maxL yret hh ws rm rm.cells rm.slots n) (hst : stk = As.reverse ++ rest) (hn : As.length = n) (hsz : ls.size = nL) (hroom : (rest.map fun v => v.category).sum ≤ 8) (hdg : decode cc pc = .ok (.invokestatic index, 3)) {c1 s1 : Nat} (hf : (cells + rm.cells = c1 ∧ slots + rm.slots = s1) ∧ c1 ≤ R.cells ∧ s1 ≤ R.slots)
    (kk : ∀ (z : Int) (M1 : sM) (N1 : Nat) (H1 : Heap) (locs1 : List Loc), post z M1 N1 → sV G b M1 N1 s H1 locs1 → W p l e R s m args below meth c H1 locs1 c1 s1 Q (F0 m (pc + 3) ls (.int (sI z) :: rest))) : W p l e R s m args below meth c H locs cells slots Q (F0 m pc ls stk) :=
  vx_calli (vx_runSX E.1 hM cw ⟨xcU.blind, fun U hU hW => ⟨rfl, xcU.of E.2.2.2.2.1 hV E.2.2.2.2.2.1 hF U hU hW⟩⟩ rfl hn hsz hst (lv_room hroom) hdg (by rw [hf.1.1, hf.1.2]; exact hf.2)) hV.2.1 (fun q _ h => h) (fun q h => h) (fun q _ h => h)
    (fun E9 ce q9 u t H1 locs1 ht hvm hp hB hz hk hS1 hce hcv hcl => hp.elim)
    (fun r u t H1 locs1 ht hvm hp hB hz hk hS1 => by
      obtain ⟨z, rfl, hp⟩ := hp
      exact W.cs hf.1.1 hf.1.2 (kk z u.1 u.2 H1 locs1 hp ⟨ht ▸ hB, hS1, hV.2.2⟩))
/-- an int of any size as a long -/
def sW (z : Int) : Int := (sI z).toInt
theorem sl_i2w (S : CallFix p m c cc nL s args Ts own) {x : Int} (hdg : decode cc pc = .ok (.i2l, 1)) (k : W p l e R s m args below meth c H locs cells slots Q (F0 m (pc + 1) ls (.long (sL (sW x)) :: rest))) : W p l e R s m args below meth c H locs cells slots Q (F0 m pc ls (.int (sI x) :: rest)) := lv_i2l S.1 S.2.1 hdg (by
    have h := sI_r (sI x)
    rw [← Int64.toInt_inj, Int32.toInt_toInt64]
    exact (sL_toInt (z := sW x) (by show -9223372036854775808 ≤ (sI x).toInt ∧ (sI x).toInt ≤ 9223372036854775807; omega)).symm) k
theorem sc_last (S : CallFix p m c cc nL s args Ts own) (hK : va_K G.1 vwCl (sTy G) s) (hV : sV G b M N s H locs) {a : Nat} {n : Nat} {g : Int → Int} (he : M a = some (sArL G n g)) {i x : Int} (hi : 0 ≤ i ∧ i < n ∧ (n : Int) ≤ 2147483647) (hdg : decode cc pc = .ok (.lastore, 1))
    (kk : ∀ (M1 : sM) (H1 : Heap) (locs1 : List Loc), M1 = va_up M a (some (sArL G n (iup g i x))) → sV G b M1 N s H1 locs1 → W p l e R s m args below meth c H1 locs1 cells slots Q (F0 m (pc + 1) ls rest)) : W p l e R s m args below meth c H locs cells slots Q (F0 m pc ls (.long (sL x) :: .int (sI i) :: .ref a :: rest)) := by
  have hc : (sI i).toNatClampNeg = i.toNat := sI_clamp (by omega)
  have hba := (hV.1.2 a _ he).1
  refine W.last S.1 S.2.1 (hV.1.2 a _ he).2 ((hK.2 3 _ rfl).1 n (fun j => .long (sL (g (j : Int))))) (fun q => by cases q) (by show ¬ (sI i < 0 ∨ (arrV _ _ _).slots.size ≤ _); rw [arrV_size]; exact sI_in hi) rfl rfl hdg fun H1 e z oq => ?_
  refine kk _ H1 _ rfl ⟨hV.1.put he ?_ z oq, hV.2.1.put z oq hba, hV.2.2⟩
  show H1[a]? = some (vp_cell _ _)
  rw [e]
  rw [vp_cell_l, vp_cell_l, arrV_store, hc]
  congr 2
  funext q
  by_cases hq : q = i.toNat
  · have hg : ((q : Nat) : Int) = i := by omega
    show (if q = i.toNat then _ else _) = _
    rw [if_pos hq]
    unfold iup
    rw [if_pos hg]
  · have hg : ¬ ((q : Nat) : Int) = i := by omega
    show (if q = i.toNat then _ else _) = _
    rw [if_neg hq]
    unfold iup
    rw [if_neg hg]
theorem sc_lald (S : CallFix p m c cc nL s args Ts own) (hK : va_K G.1 vwCl (sTy G) s) (hV : sV G b M N s H locs) {a : Nat} {n : Nat} {g : Int → Int} (he : M a = some (sArL G n g)) {i : Int} (hi : 0 ≤ i ∧ i < n ∧ (n : Int) ≤ 2147483647) (hdg : decode cc pc = .ok (.laload, 1))
    (kk : W p l e R s m args below meth c H locs cells slots Q (F0 m (pc + 1) ls (.long (sL (g i)) :: rest))) : W p l e R s m args below meth c H locs cells slots Q (F0 m pc ls (.int (sI i) :: .ref a :: rest)) := by
  have hc : (sI i).toNatClampNeg = i.toNat := sI_clamp (by omega)
  have hlt : i.toNat < n := by omega
  have hg : (((i.toNat : Nat) : Int)) = i := by omega
  refine W.lald (v := .long (sL (g i))) S.1 S.2.1 (hV.1.2 a _ he).2 ((hK.2 3 _ rfl).1 n (fun j => .long (sL (g (j : Int))))) (fun q => by cases q) (by show ¬ (sI i < 0 ∨ (arrV _ _ _).slots.size ≤ _); rw [arrV_size]; exact sI_in hi) ?_ rfl rfl hdg kk
  show (arrV G.2.2.2.2 n (fun j => .long (sL (g (j : Int))))).slots[_]? = _
  rw [hc, arrV_read _ _ hlt, hg]
theorem sc_newl (S : CallFix p m c cc nL s args Ts own) (hK : va_K G.1 vwCl (sTy G) s) (hV : sV G b M N s H locs) (harr : (Cond.arrayClass .long).before args s = true) {z : Int} {N0 : Nat} (hz : z = (N0 : Int) ∧ N0 ≤ 100000) (hR : cells + 1 ≤ R.cells ∧ slots + N0 ≤ R.slots) (hdg : decode cc pc = .ok (.newarray .long, 2))
    (kk : ∀ (M1 : sM) (H1 : Heap) (locs1 : List Loc), M1 = va_up M N (some (sArL G N0 (fun _ => 0))) → sV G b M1 (N + 1) s H1 locs1 → W p l e R s m args below meth c H1 locs1 (cells + 1) (slots + N0) Q (F0 m (pc + 2) ls (.ref N :: rest))) : W p l e R s m args below meth c H locs cells slots Q (F0 m pc ls (.int (sI z) :: rest)) := by
  obtain ⟨rfl, hz2⟩ := hz
  have hr : sR ((N0 : Nat) : Int) := by omega
  have hneg : ¬ sI (N0 : Int) < 0 := by rw [sI_zero, sI_lt hr (by omega)]; omega
  have hcl : (sI (N0 : Int)).toNatClampNeg = N0 := by rw [sI_clamp hr]; omega
  refine va_newaK (atype := .long) S.1 S.2.1 harr rfl hdg rfl hneg hcl (by show N0 * 8 ≤ 536870912; omega) hR.1 hR.2 hV.1.1 fun H1 cA e1 z1 o1 hAr hNm => ?_
  have hcA : cA = G.2.2.2.2 := Option.some.inj (hNm.symm.trans (hK.2 3 (G.2.2.2.2, .long) rfl).2)
  subst hcA
  have hbN : b ≤ N := by rw [← hV.1.1]; exact Nat.le_trans hV.2.2 hV.2.1.1
  refine kk _ H1 locs rfl ⟨hV.1.push hbN ?_ z1 o1, ⟨Nat.le_trans hV.2.1.1 (by rw [z1, hV.1.1]; omega), fun q h1 h2 => (o1 q (by rw [← hV.1.1]; exact Nat.lt_of_lt_of_le h1 hV.2.1.1)).trans (hV.2.1.2.1 q h1 h2), hV.2.1.2.2⟩, hV.2.2⟩
  show H1[N]? = some (vp_cell _ _)
  rw [e1, vp_cell_l]
  rfl
end YR
