/-! The walk from the law's entry. -/
section SKQ
variable {p : Program} {l : Launch} {e : Env} {R : Room} {s : State} {m : MethodId} {args : Array Value} {below : List Frame} {meth : Method} {c : Code} {H : Heap} {locs : List Loc} {cells slots : Nat} {Q : State → Prop}
variable {cc : ByteArray} {nL : Nat} {Ts : List Cond} {own nm : String} {pc : Nat} {ls : Array Slot} {rest : List Value} {ret : Option FieldType}
variable {G : sG} {b : Nat} {M M0 : sM} {N N0 : Nat}
variable {y : MethodName} {bytes : ByteArray} {maxL n index : Nat} {ws : List Cond} {rm : Room} {a : Nat} {As stk : List Value}
theorem sk_IQ (E : sE p l e R s m args below meth c cc nL Ts own nm ret G b M0 N0) (hV : sV G b M N s H locs) (hAO : va_AO "Stonecabinet$State" s) {post : sM → Nat → Prop} (hM : cQ l y ws rm G b M N (.ref a :: As) post) (cw : CallB R s args own index y bytes maxL none ws rm rm.cells rm.slots n ∧ y.name = "<init>" ∧ (Cond.instanceMethod y).before args s = true) (hst : stk = As.reverse ++ .ref a :: rest) (hn : As.length = n) (hsz : ls.size = nL) (hroom : (rest.map fun v => v.category).sum ≤ 8) (hdg : decode cc pc = .ok (.invokespecial index, 3)) {c1 s1 : Nat} (hf : (cells + rm.cells = c1 ∧ slots + rm.slots = s1) ∧ c1 ≤ R.cells ∧ s1 ≤ R.slots)
    (kk : ∀ (M1 : sM) (N1 : Nat) (H1 : Heap) (locs1 : List Loc), post M1 N1 → sV G b M1 N1 s H1 locs1 → W p l e R s m args below meth c H1 locs1 c1 s1 Q (F0 m (pc + 3) ls rest)) : W p l e R s m args below meth c H locs cells slots Q (F0 m pc ls stk) :=
  va_callv (va_runI E.1 hM cw ⟨xqU.blind, fun U hU hW => ⟨rfl, xqU.of E.2.2.2.2.1 hV E.2.2.2.2.2.1 hAO U hU hW⟩⟩ rfl hn hsz hst (lv_room hroom) hdg (by rw [hf.1.1, hf.1.2]; exact hf.2)) hV.2.1 (fun q _ h => h) (fun q h => h) (fun u t H1 locs1 ht hvm hp hB hz hk hS1 => W.cs hf.1.1 hf.1.2 (kk u.1 u.2 H1 locs1 hp ⟨ht ▸ hB, hS1, hV.2.2⟩))
end SKQ
/-! THE CLAIM OUT OF ONE WALK OF THE LAW'S BODY. Your part is whole_start (and what it stands on); all else here is the same for every law, but numbers. -/
def R_law : String := "StonecabinetLaw"
def lw_P (b : Addr) (xs : List Int32) (args : Array Value) (s : State) : Prop := args = #[.ref b] ∧ s.IntsAt b xs ∧ xs.length ≤ 3072 ∧ (Jvm.Cond.and given_1 narrow_1).before args s = true
/-- what a walk over the start with the record d0 says of its end, said of the start itself -/
theorem lw_closed {s t : State} {o : Outcome} {d0 : Drawn} {L : List Loc} {k n : Nat} (hd0 : s.drawn.sameBut d0 lw_cs) (hv : ∃ v, o = .returned v) (hW : (s.setDrawn d0).WarmedH t.vm) (hs : (s.setDrawn d0).sameButNew ({ t with vm := s.vm } : State) L k n) : State.butDraws s t lw_cs (fun t1 => Framed s o t1 L k n) := by
  have h2 : t.drawn = d0 := congrArg State.drawn hs.1
  refine ⟨⟨hv, hW, State.sameButNew.setDrawn hs s.drawn⟩, ?_, by decide⟩
  rw [h2]
  exact hd0
def lw_Q (_ : Array Value) (s : State) (o : Outcome) (t : State) : Prop := o = .returned (some (.int 1)) ∧ State.butDraws s t lw_cs (fun t1 => Framed s o t1 [] 601024 7293034)
def lw_Z (below : List Frame) (a : Array Value) (s : State) : State → Prop := fun t => ∃ o, t.status = .running ∧ Ended t below o ∧ lw_Q a s o t
/-- the law's own end, with 1 on the stack, nothing written that was there before, its room as the claim has it; d0: the record of draws at this point (at the entry s.drawn: begin with 'refine W.base ?_' and 'have hd0 := Drawn.sameBut.refl s.drawn lw_cs') -/
theorem lw_ret {p : Program} {l : Launch} {e : Env} {s : State} {m : MethodId} {below : List Frame} {meth : Method} {c : Code} {b : Nat} {d0 : Drawn} (hd0 : s.drawn.sameBut d0 lw_cs) (hx : p.tables.exec = Jvm.exec) (hb : c.code = code) (hr : meth.sig.returnType = ret) (hlocks : meth.locks = false) {pc : Nat} {H : Heap} {ls : Array Slot} (hdg : decode code pc = .ok (.ireturn, 1)) : W p l e room_1 (s.setDrawn d0) m #[Value.ref b] below meth c H [] 601024 7293034 (lw_Z below #[Value.ref b] s) (F0 m pc ls [.int 1]) := by
  intro T hT X
  obtain ⟨fs, hret, hrun, hended, hW, hframe⟩ := X.leave (v := some (.int 1)) (hlocks := hlocks) (fun h => by rw [hr] at h; cases h)
  have hmeth' : T.vm.method? m = some meth := X.method'
  refine ⟨T.setFrames fs, ?_, .returned (some (.int 1)), hrun, hended, rfl, lw_closed hd0 ⟨_, rfl⟩ hW hframe⟩
  jvm_step X.here [X.here.top, hx, hb, hdg, hmeth', hr, ret, narrow_b1]
  (try refine ⟨rfl, ?_⟩); (try refine ⟨rfl, ?_⟩)
  first | (intro acts; rw [hret _ acts rfl rfl rfl]) | rw [hret _ _ rfl rfl rfl]
  exact Steps.refl _
/-- what holds at the law's entry: the machine, the code, the tables' words (any of lw_tbl by 'hts w (by decide +kernel)'), the script of L ints xs at the cell b, what the Statement gives of the start (any of its parts by flat_of_before) -/
def lw_At (p : Program) (s : State) (m : MethodId) (meth : Method) (c : Code) (b L : Nat) (xs : Nat → Int32) : Prop :=
  p.tables.exec = Jvm.exec ∧ c.code = code ∧ meth.sig.returnType = ret ∧ c.maxLocals = 9 ∧ s.vm.findClass R_law = some m.cls ∧ (∀ w ∈ lw_tbl, w.before #[Value.ref b] s = true) ∧ va_X b L xs s s.heap ∧ b < s.heap.size ∧ meth.locks = false ∧ (Jvm.Cond.and given_1 narrow_1).before #[Value.ref b] s = true
set_option maxHeartbeats 4000000 in
set_option maxRecDepth 100000 in
theorem whole_start {p : Program} {e : Env} {s : State} {m : MethodId} {below : List Frame} {meth : Method} {c : Code} (l : Launch) (hflags : l.flags = flags0) {b L : Nat} {xs : Nat → Int32} (hL : L ≤ 3072) (C0 : lw_At p s m meth c b L xs) : W p l e room_1 s m #[Value.ref b] below meth c s.heap [] 0 0 (lw_Z below #[Value.ref b] s) (entryFrame m ([Value.ref b] : List Value).toArray 9) := by
  obtain ⟨hx, hb, hr, hml, hown, hts, hX, hbl, hlocks, hgv⟩ := id C0
  have hd0 := Drawn.sameBut.refl s.drawn lw_cs
  obtain ⟨G, hK⟩ := st_K hts
  have hT := st_T hts hgv (hK.1 8 _ rfl).2.1
  have hF := st_F hts hgv
  have hlt : l.stackTraces = false := by
    unfold Launch.stackTraces
    rw [hflags]
    decide
  have hAO : va_AO "Stonecabinet$State" s := va_AO.of (hts _ (hT_in (i := 110) (by decide +kernel)))
  have E : sE p l e room_1 s m #[Value.ref b] below meth c cL_law 9 wsL_law RL meth.name (some .boolean) G s.heap.size (fun _ => none) s.heap.size := ⟨⟨hx, hb, hml, hown, fun w h => hts w (wsL_law_in w h)⟩, hr, hlocks, rfl, hK, hT, ⟨rfl, fun a e h => by cases h⟩, va_S.rf, Nat.le_refl _⟩
  have S := E.1
  have hV := E.2.2.2.2.2.2
  have hl := lv_entry ([.ref b]) (n := 9) (Nat.le_of_ble_eq_true rfl)
  rw [lg_entry_eq]
  generalize (lg_sl ([.ref b]) ++ List.replicate (9 - (lg_sl ([.ref b])).length) Slot.unset).toArray = ls at hl ⊢
  have hl : lv_has ls 9 [(0, .ref b)] := hl
  refine sc_newo (ci := 8) (C := RX10) (T := TX10) (n := 11) (fs := [.null, .null, .null, .int (sI 0), .int (sI 0), .null, .null, .null, .null, .null, .null]) S hK hV inlX10 tyX10_ok (hts _ (hT_in (i := 23) (by decide +kernel))) (hts _ (hT_in (i := 24) (by decide +kernel))) (hts _ (hT_in (i := 1) (by decide +kernel))) rfl (fun j hj => by rcases (show j = 0 ∨ j = 1 ∨ j = 2 ∨ j = 3 ∨ j = 4 ∨ j = 5 ∨ j = 6 ∨ j = 7 ∨ j = 8 ∨ j = 9 ∨ j = 10 by omega) with rfl | rfl | rfl | rfl | rfl | rfl | rfl | rfl | rfl | rfl | rfl <;> rfl) ⟨Nat.le_of_ble_eq_true rfl, Nat.le_of_ble_eq_true rfl⟩ dL_law_0 (fun M1 H locs hM1 hV => ?_)
  refine lv_dup hx hb dL_law_3 rfl ?_
  refine sk_IQ E hV hAO (As := []) (rest := [.ref s.heap.size]) (kX10_init l G s.heap.size M1 (s.heap.size + 1) s.heap.size ((congrFun hM1 _).trans (va_up_self _ _ _)) rfl) (cwI 0 S.2.2.2.2 gL_law_X10_init rfl rfl rfl (hts _ (hT_in (i := 1) (by decide +kernel))) (hts _ (hT_in (i := 25) (by decide +kernel))) (hts _ (hT_in (i := 26) (by decide +kernel))) rfl (by decide +kernel) ⟨Nat.le_of_ble_eq_true rfl, Nat.le_of_ble_eq_true rfl⟩) rfl rfl hl.1 (Nat.le_of_ble_eq_true rfl) dL_law_4 (c1 := 61) (s1 := 20011) ⟨⟨rfl, rfl⟩, Nat.le_of_ble_eq_true rfl, Nat.le_of_ble_eq_true rfl⟩ (fun M2 N2 H locs hp hV => ?_)
  obtain ⟨hN, hc0, hst, htr, hkp, ht0, ht1, hct, hcs, hcr, o0, o1, o2, o3, o4, o5, o6, o7, o8, o9, y0, y1, y2, y3, y4, y5, k0, k1, k2, x0, x1, x2, hf⟩ := hp
  subst hN
  refine lv_astore_n (lv' := [(1, .ref s.heap.size), (0, .ref b)]) hx hb dL_law_7 rfl hl (by decide) rfl (fun ls hl => ?_)
  refine sc_newo (ci := 9) (C := RX11) (T := TX11) (n := 22) (fs := [.int (sI 0), .null, .null, .int (sI 0), .null, .int (sI 0), .int (sI 0), .null, .null, .null, .null, .null, .null, .int (sI 0), .null, .null, .null, .null, .int (sI 0), .null, .null, .int (sI 0)]) S hK hV inlX11 tyX11_ok (hts _ (hT_in (i := 1227) (by decide +kernel))) (hts _ (hT_in (i := 1228) (by decide +kernel))) (hts _ (hT_in (i := 11) (by decide +kernel))) rfl (fun j hj => by rcases (show j = 0 ∨ j = 1 ∨ j = 2 ∨ j = 3 ∨ j = 4 ∨ j = 5 ∨ j = 6 ∨ j = 7 ∨ j = 8 ∨ j = 9 ∨ j = 10 ∨ j = 11 ∨ j = 12 ∨ j = 13 ∨ j = 14 ∨ j = 15 ∨ j = 16 ∨ j = 17 ∨ j = 18 ∨ j = 19 ∨ j = 20 ∨ j = 21 by omega) with rfl | rfl | rfl | rfl | rfl | rfl | rfl | rfl | rfl | rfl | rfl | rfl | rfl | rfl | rfl | rfl | rfl | rfl | rfl | rfl | rfl | rfl <;> rfl) ⟨Nat.le_of_ble_eq_true rfl, Nat.le_of_ble_eq_true rfl⟩ dL_law_8 (fun M3 H locs hM3 hV => ?_)
  refine lv_dup hx hb dL_law_11 rfl ?_
  refine sk_I E hV (As := []) (rest := [.ref (s.heap.size + 60)]) (kX11_init l G s.heap.size M3 (s.heap.size + 60 + 1) (s.heap.size + 60) ((congrFun hM3 _).trans (va_up_self _ _ _)) rfl) (cwI 0 S.2.2.2.2 gL_law_X11_init rfl rfl rfl (hts _ (hT_in (i := 11) (by decide +kernel))) (hts _ (hT_in (i := 1229) (by decide +kernel))) (hts _ (hT_in (i := 1230) (by decide +kernel))) rfl (by decide +kernel) ⟨Nat.le_of_ble_eq_true rfl, Nat.le_of_ble_eq_true rfl⟩) rfl rfl hl.1 (Nat.le_of_ble_eq_true rfl) dL_law_12 (c1 := 77) (s1 := 32748) ⟨⟨rfl, rfl⟩, Nat.le_of_ble_eq_true rfl, Nat.le_of_ble_eq_true rfl⟩ (fun M4 N4 H locs hp hV => ?_)
  obtain ⟨hN2, m0, m1, m2, m3, m4, m5, m6, m7, m8, m9, m10, m11, m12, m13, m14, m15, hg2⟩ := hp
  subst hN2
  refine lv_astore_n (lv' := [(2, .ref (s.heap.size + 60)), (1, .ref s.heap.size), (0, .ref b)]) hx hb dL_law_15 rfl hl (by decide) rfl (fun ls hl => ?_)
  refine si_const S dL_law_16 ?_
  refine sc_newl S hK hV (hts _ (hT_in (i := 1703) (by decide +kernel))) (N0 := 1) ⟨rfl, by omega⟩ ⟨Nat.le_of_ble_eq_true rfl, Nat.le_of_ble_eq_true rfl⟩ dL_law_17 (fun M5 H locs hM5 hV => ?_)
  refine lv_astore_n (lv' := [(3, .ref (s.heap.size + 60 + 16)), (2, .ref (s.heap.size + 60)), (1, .ref s.heap.size), (0, .ref b)]) hx hb dL_law_19 rfl hl (by decide) rfl (fun ls hl => ?_)
  refine si_const S dL_law_20 ?_
  refine lv_istore (lv' := [(4, .int (sI 0)), (3, .ref (s.heap.size + 60 + 16)), (2, .ref (s.heap.size + 60)), (1, .ref s.heap.size), (0, .ref b)]) hx hb dL_law_21 hl (by decide) rfl (fun ls hl => ?_)
  have zc5 : ∀ x : Nat, x < s.heap.size + 60 → M5 x = M2 x := fun x h => ((congrFun hM5 x).trans (va_up_ne _ _ (by omega))).trans ((hg2 x (by omega) (by omega) (by omega) (by omega) (by omega) (by omega) (by omega) (by omega) (by omega) (by omega) (by omega) (by omega) (by omega) (by omega) (by omega) (by omega)).trans ((congrFun hM3 x).trans (va_up_ne _ _ (by omega))))
  have zm5 : ∀ x : Nat, x < s.heap.size + 60 + 16 → M5 x = M4 x := fun x h => (congrFun hM5 x).trans (va_up_ne _ _ (by omega))
  have hI : lI G M5 s.heap.size (s.heap.size + 60) (s.heap.size + 60 + 16) (s.heap.size + 60 + 16 + 1) ((0 : Nat) : Int) :=
    ⟨0, 0, f0, fun _ => f0, 0, -1, fun _ => 0, 0, 0, fun _ => 0, fun _ => 0, 0, 0, 0, fun _ => 0, fun _ => 0, fun _ => 0, fun _ => 0, fun _ => 0, fun _ => 0, fun _ => 0, fun _ => 0, fun _ => 0, fun _ => 0, fun _ => 0, fun _ => 0,
      (zc5 _ (by omega)).trans hc0, hst.fr (fun x a b => zc5 x (by omega)), ⟨f0, htr.fr (fun x a b => zc5 x (by omega))⟩, kp_0 _ _ ((zc5 _ (by omega)).trans hkp), (zc5 _ (by omega)).trans ht0, (zc5 _ (by omega)).trans ht1,
      ⟨0, 0, 0, 0, 0, fun _ _ => 0, (zc5 _ (by omega)).trans hct, hcs.fr (fun x a b => zc5 x (by omega)), (zc5 _ (by omega)).trans hcr⟩,
      ⟨0, -1, fun _ => 0, fun _ => 0, fun _ => 0, fun _ => 0, fun _ => 0, fun _ => 0, fun _ => 0, fun _ => 0, fun _ => 0, (zc5 _ (by omega)).trans o0, (zc5 _ (by omega)).trans o1, (zc5 _ (by omega)).trans o2, (zc5 _ (by omega)).trans o3, (zc5 _ (by omega)).trans o4, (zc5 _ (by omega)).trans o5, (zc5 _ (by omega)).trans o6, (zc5 _ (by omega)).trans o7, (zc5 _ (by omega)).trans o8, (zc5 _ (by omega)).trans o9, ⟨fun j _ _ => ⟨show (0 : Int) ≤ 0 by omega, show (0 : Int) ≤ 2147483647 by omega⟩, Or.inl rfl⟩, by omega, by omega⟩,
      ⟨0, 268435456, fun _ => 0, fun _ => 0, fun _ => 0, fun _ => 0, fun _ => 0, (zc5 _ (by omega)).trans y0, (zc5 _ (by omega)).trans y1, (zc5 _ (by omega)).trans y2, (zc5 _ (by omega)).trans y3, (zc5 _ (by omega)).trans y4, (zc5 _ (by omega)).trans y5⟩, ⟨0, fun _ => 0, fun _ => 0, (zc5 _ (by omega)).trans k0, (zc5 _ (by omega)).trans k1, (zc5 _ (by omega)).trans k2⟩, ⟨0, 0, fun _ => 0, fun _ => 0, (zc5 _ (by omega)).trans x0, (zc5 _ (by omega)).trans x1, (zc5 _ (by omega)).trans x2⟩,
      (zm5 _ (by omega)).trans m0, (zm5 _ (by omega)).trans m1, ⟨fun _ => 0, (zm5 _ (by omega)).trans m2, fun i k a b => absurd b (by omega)⟩, (zm5 _ (by omega)).trans m3, (zm5 _ (by omega)).trans m4, (zm5 _ (by omega)).trans m5, (zm5 _ (by omega)).trans m6, (zm5 _ (by omega)).trans m7, (zm5 _ (by omega)).trans m8, (zm5 _ (by omega)).trans m9, (zm5 _ (by omega)).trans m10, (zm5 _ (by omega)).trans m11, (zm5 _ (by omega)).trans m12, (zm5 _ (by omega)).trans m13, (zm5 _ (by omega)).trans m14, (zm5 _ (by omega)).trans m15, (congrFun hM5 _).trans (va_up_self _ _ _),
      ⟨gS_0, fun i a b => absurd b (by omega)⟩, tp_0 _, wrQ_0 _ _⟩
  exact W.widen (k := 78 + 1170 * 0) (n := 32749 + 14000 * 0) (by omega) (by omega) (law_loop (c := s.heap.size) (m := s.heap.size + 60) (o := s.heap.size + 60 + 16) (kb := s.heap.size + 60 + 16 + 1) E hF hlt hX hbl (by omega) (by omega) (fun M1 N1 H1 locs1 ls1 hV1 => by
    refine lv_iconst (v := 1) hx hb dL_law_2859 (by decide) ?_
    refine va_forget (fun q hq => hV1.2.1.2.2 q hq) ?_
    exact W.base (lw_ret hd0 hx hb hr hlocks dL_law_2860)) 512 0 rfl M5 (s.heap.size + 60 + 16 + 1) H locs ls (Nat.le_refl _) hI hV (lv_sub hl [4, 3, 2, 1, 0] rfl))
set_option maxHeartbeats 4000000 in
theorem lw_walk (l : Launch) (hflags : l.flags = flags0) (b : Addr) (xs : List Int32) : MetFree l x (headSpec (Jvm.Cond.code x code maxLocals ret :: tables_1) room_1) (lw_P b xs) (fun _ _ _ _ _ => True) lw_Q := by
  refine MetFree.of_bodyS (code := code) (maxLocals := maxLocals) (ret := ret) (by decide) ?_ ?_
  · intro args s m h hn
    obtain ⟨meth, c, h1, h2, h3, h4, h5, h6, -, -⟩ := Cond.code_spec hn (atoms_spec (ws := Jvm.Cond.code x code maxLocals ret :: tables_1) h _ List.mem_cons_self)
    exact ⟨meth, c, h1, h2, h3, h4, h5, h6⟩
  · intro p e s m args below meth c s₁ B hml0 hP _
    obtain ⟨rfl, hx, hbd, hgv⟩ := hP
    obtain ⟨scr, harrAt, hlist, hof, hsmall⟩ := hx
    obtain ⟨hcb, hkn, -, -⟩ := State.arrayAt?_spec harrAt
    have hown : s.vm.findClass R_law = some m.cls := findClass_of_methodNamed B.named
    have hts0 : ∀ c ∈ (Jvm.Cond.code x code maxLocals ret :: tables_1), c.before #[Value.ref b] s = true := atoms_spec (ws := Jvm.Cond.code x code maxLocals ret :: tables_1) B.pre
    have hts : ∀ w ∈ lw_tbl, w.before #[Value.ref b] s = true := k2_hts_sels lw_privs (fun w hw => hts0 w (List.mem_cons_of_mem _ hw)) lw_privs_ok
    have hml : c.maxLocals = 9 := B.maxLocals_eq (hts0 _ List.mem_cons_self)
    have X₀ : Stand p l e room_1 s m #[Value.ref b] below meth c s₁ [] 0 0 := Stand.of_body B
    have hh0 : s₁.heap = s.heap := by rw [B.state]; rfl
    have hsz : scr.slots.size = xs.length := by rw [← Array.length_toList, hlist, List.length_map]
    have hval : ∀ j : Nat, j < xs.length → scr.slots[j]? = some (.int (xs.getD j 0)) := fun j hj => by
      rw [← Array.getElem?_toList, hlist]
      simp [hj]
    have hbl : b < s.heap.size := (Array.getElem?_eq_some_iff.mp hcb).1
    have hX : va_X b xs.length (fun j => xs.getD j 0) s s.heap := ⟨scr, hcb, hof, hkn, hsz, hval⟩
    have K : W p l e room_1 s m #[Value.ref b] below meth c s₁.heap [] 0 0 (lw_Z below #[Value.ref b] s) (entryFrame m ([Value.ref b] : List Value).toArray 9) := by
      rw [hh0]
      exact whole_start l hflags hbd ⟨B.exec, B.bytes, B.returns, hml, hown, hts, hX, hbl, B.notSynchronized, hgv⟩
    obtain ⟨t, a1, o, b1, b2, b3⟩ := K s₁ rfl X₀
    exact ⟨t, o, a1, b1, b2, b3⟩
theorem lw_pre_spec {args : Array Value} {s : State} (h : (Jvm.Cond.and given_1 narrow_1).before args s = true) (hr : rest_1_c.before args s = true) : ∃ (b : Addr) (xs : List Int32), lw_P b xs args s := by
  have hs := flat_of_before _ h
  have hq := flat_of_before _ hr
  have hc : (Cond.count 1).before args s = true := hs _ (by decide +kernel)
  have harr : (Cond.arrayOf (.arg 0) .int).before args s = true := hs _ (by decide +kernel)
  have hle : (Cond.le (.length (.arg 0)) (.int 3072)).before args s = true := hs _ (by decide +kernel)
  have hlen : (Cond.isInt (.length (.arg 0))).before args s = true := hq _ (by decide +kernel)
  have hall : (Cond.all (.arg 0) (.isInt (.elem (.arg 0) (.index 0)))).before args s = true := hq _ (by decide +kernel)
  obtain ⟨b, xs, hb, hx⟩ := State.ints_of_pre rfl harr hlen hall
  have hsm : xs.length < 2 ^ 31 := hx.choose_spec.2.2.2
  have hev : (Term.length (.arg 0)).eval args s none [] s = some (.int xs.length.toInt32) := hx.length_eval hb
  have hv := Cond.le_ints hev (show (Term.int 3072).eval args s none [] s = some (.int 3072) from rfl)
  have hd : xs.length.toInt32 ≤ 3072 := by
    simpa [Cond.before, Cond.holds, hv] using hle
  have hN : xs.length ≤ 3072 := (Int32.ofNat_le_ofNat hsm (by decide)).mp (show Int32.ofNat xs.length ≤ Int32.ofNat 3072 from hd)
  exact ⟨b, xs, Cond.one_arg hc (show args[0]? = some (.ref b) from hb), hx, hN, h⟩
theorem lw_comes (l : Launch) (hflags : l.flags = flags0) : Comes l x (Jvm.Cond.code x code maxLocals ret :: tables_1) room_1 (fun tb e args s => Calls_1 tb e args s ∧ rest_1 tb e args s ∧ Pre_1 tb e args s)
    (fun _ _ args s o t => lw_Q args s o t) := by
  intro p e ha hc hk s m args below hf hfit hheap happ hpre
  obtain ⟨b, xs, hP⟩ := lw_pre_spec hpre.2.2 hpre.2.1
  obtain ⟨k, o, h1, h2, h3, hQ⟩ := lw_walk l hflags b xs p e ha hc hk s m args below hf ((Spec.applies_iff_loose hf).mp happ).1 hP trivial
  exact ⟨k, o, h1, h2, h3, hQ⟩
theorem lw_frame {s t : State} {o : Outcome} {args : Array Value} (h : State.butDraws s t lw_cs (fun t1 => Framed s o t1 [] 601024 7293034)) :
    State.butDraws s t [Jvm.Choice.named "NaN.bits"] (fun t1 => Framed s o t1 (fieldLocs frame_1_writes args s ++ arrayLocs frame_1_arrays args s ++ staticLocs frame_1_statics s) 601024 7293034) := h
theorem lw_limb (L : Cond) (hL : ∀ (args : Array Value) (s t : State), L.after args s (.returned (some (.int 1))) t = true) :
    ArmFor flags0 classFile x code maxLocals ret World_1 tables_1 room_1 Calls_1 rest_1 Pre_1
      (fun tb e a s o t => postC L tb e a s o t ∧ State.butDraws s t [Jvm.Choice.named "NaN.bits"] (fun t1 => Framed s o t1 (fieldLocs frame_1_writes a s ++ arrayLocs frame_1_arrays a s ++ staticLocs frame_1_statics s) 601024 7293034)) := by
  intro l hflags _ _ p e ha hc hk s m args below hf hfit hheap happ hpre
  obtain ⟨k, o, h1, h2, h3, rfl, hF⟩ := lw_comes l hflags p e ha hc hk s m args below hf hfit hheap happ hpre
  exact ⟨k, _, h1, h2, h3, hL args s _, lw_frame hF⟩
theorem i_vc : Claimed_1_1 ∧ Claimed_1_2 := ⟨lw_limb limb_1_1 (fun args s t => by simp [limb_1_1, Cond.after, Cond.holds, Cond.value]), lw_limb limb_1_2 (fun args s t => Cond.after_iff.mpr (by
  first | (rw [show limb_1_2 = Cond.eq .result (.int 1) from rfl, Cond.eq_ints (x := 1) (y := 1) rfl rfl]; simp; done) | (simp [limb_1_2, Cond.value, Term.eval]; done)))⟩
