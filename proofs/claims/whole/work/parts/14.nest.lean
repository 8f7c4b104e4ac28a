/-! What nest mates reach: fields, constructors. -/
section SN
variable {p : Program} {l : Launch} {e : Env} {R : Room} {s : State} {m : MethodId} {args : Array Value} {below : List Frame} {meth : Method} {c : Code} {H : Heap} {locs : List Loc} {cells slots : Nat} {Q : State → Prop}
variable {cc : ByteArray} {nL : Nat} {Ts : List Cond} {own nm : String} {pc : Nat} {ls : Array Slot} {rest : List Value} {ret : Option FieldType}
variable {G : sG} {b : Nat} {M M0 : sM} {N N0 : Nat}
theorem sc_getN (S : CallFix p m c cc nL s args Ts own) (hK : va_K G.1 vwCl (sTy G) s) (hV : sV G b M N s H locs) {a : Nat} {ref C : String} {T : u_T} {n ci index : Nat} (hin : ∀ w ∈ u_ws C T n, w ∈ Ts) {fs : List Value} (he : M a = some (sObj ci fs)) (hc : vwCl[ci]? = some (C, T, n)) (k : Nat) (hk : k < n) (hlink : va_Nw (.fieldLinkNest own index ref (T k).2.1 (T k).2.2.1 "Stonecabinet") s) (hsame : ref = (T k).1) {v : Value} (hv : fs[k]? = some v) (hdg : decode cc pc = .ok (.getfield index, 3))
    (kk : W p l e R s m args below meth c H locs cells slots Q (F0 m (pc + 3) ls (v :: rest))) : W p l e R s m args below meth c H locs cells slots Q (F0 m pc ls (.ref a :: rest)) :=
  va_getN (D := G.1) (cl := vwCl) (ws := [(a, sObj ci fs)]) S.1 S.2.1 S.2.2.2.2 hin S.2.2.2.1 hK (fun i q hq => by
    have hz : i < 1 := (List.getElem?_eq_some_iff.mp hq).1
    rw [show i = 0 by omega] at hq
    cases hq
    exact (hV.1.2 a _ he).2) 0 rfl hc k hk (va_Nw.use rfl hlink) (fun x hx => by rw [hsame]; exact hx) hv hdg kk
theorem sc_putN (S : CallFix p m c cc nL s args Ts own) (hK : va_K G.1 vwCl (sTy G) s) (hV : sV G b M N s H locs) {a : Nat} {ref C : String} {T : u_T} {n ci index : Nat} (hin : ∀ w ∈ u_ws C T n, w ∈ Ts) {ty0 : Nat → FieldType} (hty : ∀ k, k < n → parseFieldDescriptor (T k).2.2.1 = some (ty0 k)) (hnm : ∀ a, a < n → ∀ b, b < n → a ≠ b → (T a).2.1 ≠ (T b).2.1) {fs : List Value} (he : M a = some (sObj ci fs)) (hc : vwCl[ci]? = some (C, T, n)) (k : Nat) (hk : k < n) (hlink : va_Nw (.fieldLinkNest own index ref (T k).2.1 (T k).2.2.1 "Stonecabinet") s) (hsame : ref = (T k).1) (hfin : (T k).2.2.2 = false) {v : Value} (hn : narrow (ty0 k) v = v) (hfit : fits (ty0 k) v = true) (hl : k < fs.length) (hdg : decode cc pc = .ok (.putfield index, 3))
    {fs1 : List Value} (hfs : fs.set k v = fs1) (kk : ∀ (M1 : sM) (H1 : Heap) (locs1 : List Loc), M1 = va_up M a (some (sObj ci fs1)) → sV G b M1 N s H1 locs1 → W p l e R s m args below meth c H1 locs1 cells slots Q (F0 m (pc + 3) ls rest)) : W p l e R s m args below meth c H locs cells slots Q (F0 m pc ls (v :: .ref a :: rest)) := by
  obtain ⟨hx, hb, -, hown, hts⟩ := S
  have hap := va_apart (own := own) hts hin ty0 hty hnm hK hc
  obtain ⟨hba, r, h1, cell, q1, q2, q3, q4⟩ := hV.1.2 a _ he
  have hr : r = (C, T, n) := Option.some.inj (h1.symm.trans hc)
  subst hr
  obtain ⟨hS, hfc, kC, hkC, hkind⟩ := hK.1 ci _ hc
  obtain ⟨cf, kf, fi, f, hi, hsl⟩ := hS k hk
  have hlay := hts _ (hin _ (u_in_lay hk))
  unfold u_lay at hlay
  rw [if_neg (by rw [hfin]; decide)] at hlay
  have hst := (u_facts hfc hkC (u_lays hts hin hk) hi).1
  have h6 := u_store hfc hkC hkind hlay hi (hty k hk) hn hfit
  subst hsame
  refine va_WputK hx hb (f := f) hown (va_Nw.use rfl hlink) hi hst (by rw [q2]; exact h6) q1 q3 (by rw [hsl]; exact k2_hasslot (q4 k hk)) rfl rfl hdg fun H' e1 e2 e3 => ?_
  rw [hsl] at e1 ⊢
  subst hfs
  exact kk _ H' _ rfl ⟨hV.1.put he ⟨_, hc, t_OB.to (V := updV (vp_V fs) k v) ⟨_, e1, q2, q3, t_set q4 hap hk v⟩ (fun j _ => vp_updV_set hl v j)⟩ e2 e3, hV.2.1.put e2 e3 hba, hV.2.2⟩
variable {y : MethodName} {bytes : ByteArray} {maxL mc ms n index : Nat} {yret : Option FieldType} {ws : List Cond} {rm : Room} {C : String} {a : Nat} {As stk : List Value}
theorem sk_IN (E : sE p l e R s m args below meth c cc nL Ts own nm ret G b M0 N0) (hV : sV G b M N s H locs) {post : sM → Nat → Prop} (hM : cV l y ws rm G b M N (.ref a :: As) post) (cw : va_CN R s args own index y "Stonecabinet" bytes maxL none ws rm rm.cells rm.slots n ∧ y.name = "<init>" ∧ (Cond.instanceMethod y).before args s = true) (hst : stk = As.reverse ++ .ref a :: rest) (hn : As.length = n) (hsz : ls.size = nL) (hroom : (rest.map fun v => v.category).sum ≤ 8) (hdg : decode cc pc = .ok (.invokespecial index, 3)) {c1 s1 : Nat} (hf : (cells + rm.cells = c1 ∧ slots + rm.slots = s1) ∧ c1 ≤ R.cells ∧ s1 ≤ R.slots)
    (kk : ∀ (M1 : sM) (N1 : Nat) (H1 : Heap) (locs1 : List Loc), post M1 N1 → sV G b M1 N1 s H1 locs1 → W p l e R s m args below meth c H1 locs1 c1 s1 Q (F0 m (pc + 3) ls rest)) : W p l e R s m args below meth c H locs cells slots Q (F0 m pc ls stk) :=
  va_callv (va_runIN E.1 hM cw ⟨sU.blind, fun U hU hW => ⟨rfl, sU.of E.2.2.2.2.1 hV E.2.2.2.2.2.1 U hU hW⟩⟩ rfl hn hsz hst (lv_room hroom) hdg (by rw [hf.1.1, hf.1.2]; exact hf.2)) hV.2.1 (fun q _ h => h) (fun q h => h) (fun u t H1 locs1 ht hvm hp hB hz hk hS1 => W.cs hf.1.1 hf.1.2 (kk u.1 u.2 H1 locs1 hp ⟨ht ▸ hB, hS1, hV.2.2⟩))
end SN
