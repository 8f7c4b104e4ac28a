/-! The law: its rows, and what holds between its calls. -/
/-- the script's ints -/
def lX (xs : Nat → Int32) (i : Int) : Int := (xs i.toNat).toInt
theorem lX_r (xs : Nat → Int32) (i : Int) : sR (lX xs i) := sI_r _
section LR
variable {p : Program} {l : Launch} {e : Env} {R : Room} {s : State} {m : MethodId} {args : Array Value} {below : List Frame} {meth : Method} {c : Code} {H : Heap} {locs : List Loc} {cells slots : Nat} {Q : State → Prop}
variable {cc : ByteArray} {nL : Nat} {Ts : List Cond} {own nm : String} {pc : Nat} {ls : Array Slot} {rest : List Value} {ret : Option FieldType}
variable {G : sG} {b : Nat} {M M0 : sM} {N N0 : Nat}
theorem sc_sld (S : CallFix p m c cc nL s args Ts own) (hV : sV G b M N s H locs) {z L : Nat} {xs : Nat → Int32} (hX : va_X z L xs s s.heap) (hz : z < b) {i : Int} (hi : 0 ≤ i ∧ i < L ∧ (L : Int) ≤ 2147483647) (hdg : decode cc pc = .ok (.iaload, 1))
    (kk : W p l e R s m args below meth c H locs cells slots Q (F0 m (pc + 1) ls (.int (sI (lX xs i)) :: rest))) : W p l e R s m args below meth c H locs cells slots Q (F0 m pc ls (.int (sI i) :: .ref z :: rest)) := by
  refine va_sld S.1 S.2.1 hX (Nat.lt_of_lt_of_le hz hV.2.2) (fun q => Nat.not_lt.mpr q hz) hV.2.1 (sI_in hi) hdg ?_
  rw [sI_clamp (by omega)]
  have e : sI (lX xs i) = xs i.toNat := sI_self _
  rw [← e]
  exact kk
theorem sc_slen (S : CallFix p m c cc nL s args Ts own) (hV : sV G b M N s H locs) {z L : Nat} {xs : Nat → Int32} (hX : va_X z L xs s s.heap) (hz : z < b) (hdg : decode cc pc = .ok (.arraylength, 1))
    (kk : W p l e R s m args below meth c H locs cells slots Q (F0 m (pc + 1) ls (.int (sI (L : Int)) :: rest))) : W p l e R s m args below meth c H locs cells slots Q (F0 m pc ls (.ref z :: rest)) := by
  refine va_slen S.1 S.2.1 hX (Nat.lt_of_lt_of_le hz hV.2.2) (fun q => Nat.not_lt.mpr q hz) hV.2.1 hdg ?_
  rw [show Int32.ofNat L = sI (L : Int) from Int32.ofInt_eq_ofNat.symm]
  exact kk
theorem sb_eq1 (S : CallFix p m c cc nL s args Ts own) {x y off : Int} {tgt : Nat} (h : x = y) (hdg : decode cc pc = .ok (.if_icmp .eq off, 3)) (ht : (pc : Int) + off = (tgt : Int)) (kt : W p l e R s m args below meth c H locs cells slots Q (F0 m tgt ls rest)) : W p l e R s m args below meth c H locs cells slots Q (F0 m pc ls (.int (sI y) :: .int (sI x) :: rest)) := lv_icmp_eq S.1 S.2.1 hdg ht (fun _ => kt) (fun q => absurd (by rw [h]) q)
theorem sl_cmp0 (S : CallFix p m c cc nL s args Ts own) {x y : Int} (h : x = y) (hdg : decode cc pc = .ok (.lcmp, 1)) (k : W p l e R s m args below meth c H locs cells slots Q (F0 m (pc + 1) ls (.int (sI 0) :: rest))) : W p l e R s m args below meth c H locs cells slots Q (F0 m pc ls (.long (sL y) :: .long (sL x) :: rest)) := by
  subst h
  refine W.lcmp S.1 S.2.1 hdg ?_
  rw [show lg_cmp (sL x) (sL x) = sI 0 by simp [lg_cmp, sI]]
  exact k
theorem sd_cmp0 (S : CallFix p m c cc nL s args Ts own) {x : UInt64} (h : FP.Core.decode FP.Core.b64 x.toNat ≠ .nan) (hdg : decode cc pc = .ok (.dcmp .l, 1)) (k : W p l e R s m args below meth c H locs cells slots Q (F0 m (pc + 1) ls (.int (sI 0) :: rest))) : W p l e R s m args below meth c H locs cells slots Q (F0 m pc ls (.double x :: .double x :: rest)) := by
  refine lv_dcmp S.1 S.2.1 hdg ?_
  rw [dp_cmp h, show Op.cmpValue (some Ordering.eq) .l = sI 0 from rfl]
  exact k
/-- a number as a truth -/
theorem sb_bool (S : CallFix p m c cc nL s args Ts own) {x : Int} (hx : sR x) {t0 t1 : Nat} {f0 f1 : Int} (d0 : decode cc pc = .ok (.ifCond .eq f0, 3)) (h0 : (pc : Int) + f0 = (t0 : Int)) (d1 : decode cc (pc + 3) = .ok (.iconst 1, 1)) (d2 : decode cc (pc + 4) = .ok (.goto f1, 3)) (h1 : ((pc + 4 : Nat) : Int) + f1 = (t1 : Int)) (d3 : decode cc t0 = .ok (.iconst 0, 1)) (h3 : t0 + 1 = t1)
    (k : W p l e R s m args below meth c H locs cells slots Q (F0 m t1 ls (.int (sI (bI (x ≠ 0))) :: rest))) : W p l e R s m args below meth c H locs cells slots Q (F0 m pc ls (.int (sI x) :: rest)) := by
  refine sz_eq S d0 h0 hx (fun q => ?_) (fun q => ?_)
  · refine si_const S d3 ?_
    rw [h3]
    rw [bI_f (show ¬ (x ≠ 0) from fun w => w q)] at k
    exact k
  · refine si_const S d1 ?_
    refine lv_goto S.1 S.2.1 d2 h1 ?_
    rw [bI_t q] at k
    exact k
/-- a truth as a long -/
theorem sb_boolL (S : CallFix p m c cc nL s args Ts own) {P : Prop} {t0 t1 : Nat} {f0 f1 : Int} (d0 : decode cc pc = .ok (.ifCond .eq f0, 3)) (h0 : (pc : Int) + f0 = (t0 : Int)) (d1 : decode cc (pc + 3) = .ok (.lconst 1, 1)) (d2 : decode cc (pc + 4) = .ok (.goto f1, 3)) (h1 : ((pc + 4 : Nat) : Int) + f1 = (t1 : Int)) (d3 : decode cc t0 = .ok (.lconst 0, 1)) (h3 : t0 + 1 = t1)
    (k : W p l e R s m args below meth c H locs cells slots Q (F0 m t1 ls (.long (sL (bI P)) :: rest))) : W p l e R s m args below meth c H locs cells slots Q (F0 m pc ls (.int (sI (bI P)) :: rest)) := by
  refine sq_eq S d0 h0 (fun q => ?_) (fun q => ?_)
  · refine sl_const S (z := 0) d3 (by decide) ?_
    rw [h3]
    rw [bI_f q] at k
    exact k
  · refine sl_const S (z := 1) d1 (by decide) ?_
    refine lv_goto S.1 S.2.1 d2 h1 ?_
    rw [bI_t q] at k
    exact k
variable {y : MethodName} {bytes : ByteArray} {maxL n index : Nat} {yret : Option FieldType} {ws : List Cond} {rm : Room} {C : String} {a : Nat} {As stk : List Value}
theorem sk_Vd (E : sE p l e R s m args below meth c cc nL Ts own nm ret G b M0 N0) (hV : sV G b M N s H locs) {post : UInt64 → sM → Nat → Prop} (hM : cD l y ws rm G b M N (.ref a :: As) post) (cw : CallW R s args own C index y bytes maxL yret ws rm rm.cells rm.slots n) {ci k : Nat} {T : u_T} {fs : List Value} (he : M a = some (sObj ci fs)) (hc : vwCl[ci]? = some (C, T, k)) (hst : stk = As.reverse ++ .ref a :: rest) (hn : As.length = n) (hsz : ls.size = nL) (hroom : (rest.map fun v => v.category).sum ≤ 8) (hdg : decode cc pc = .ok (.invokevirtual index, 3)) {c1 s1 : Nat} (hf : (cells + rm.cells = c1 ∧ slots + rm.slots = s1) ∧ c1 ≤ R.cells ∧ s1 ≤ R.slots)
    (kk : ∀ (z : UInt64) (M1 : sM) (N1 : Nat) (H1 : Heap) (locs1 : List Loc), post z M1 N1 → sV G b M1 N1 s H1 locs1 → W p l e R s m args below meth c H1 locs1 c1 s1 Q (F0 m (pc + 3) ls (.double z :: rest))) : W p l e R s m args below meth c H locs cells slots Q (F0 m pc ls stk) :=
  va_calld (va_runV E.1 hM cw ⟨sU.blind, sH.recv E.2.2.2.2.1 hV.1 hc he, fun U hU hW => ⟨rfl, sU.of E.2.2.2.2.1 hV E.2.2.2.2.2.1 U hU hW⟩⟩ rfl hn hsz hst (lv_room hroom) hdg (by rw [hf.1.1, hf.1.2]; exact hf.2)) hV.2.1 (fun q _ h => h) (fun q h => h) (fun r u t H1 locs1 ht hvm hp hB hz hk hS1 => W.cs hf.1.1 hf.1.2 (kk r u.1 u.2 H1 locs1 hp ⟨ht ▸ hB, hS1, hV.2.2⟩))
theorem sk_Vf (E : sE p l e R s m args below meth c cc nL Ts own nm ret G b M0 N0) (hV : sV G b M N s H locs) {post : UInt32 → sM → Nat → Prop} (hM : cF l y ws rm G b M N (.ref a :: As) post) (cw : CallW R s args own C index y bytes maxL yret ws rm rm.cells rm.slots n) {ci k : Nat} {T : u_T} {fs : List Value} (he : M a = some (sObj ci fs)) (hc : vwCl[ci]? = some (C, T, k)) (hst : stk = As.reverse ++ .ref a :: rest) (hn : As.length = n) (hsz : ls.size = nL) (hroom : (rest.map fun v => v.category).sum ≤ 8) (hdg : decode cc pc = .ok (.invokevirtual index, 3)) {c1 s1 : Nat} (hf : (cells + rm.cells = c1 ∧ slots + rm.slots = s1) ∧ c1 ≤ R.cells ∧ s1 ≤ R.slots)
    (kk : ∀ (z : UInt32) (M1 : sM) (N1 : Nat) (H1 : Heap) (locs1 : List Loc), post z M1 N1 → sV G b M1 N1 s H1 locs1 → W p l e R s m args below meth c H1 locs1 c1 s1 Q (F0 m (pc + 3) ls (.float z :: rest))) : W p l e R s m args below meth c H locs cells slots Q (F0 m pc ls stk) :=
  va_callf (va_runV E.1 hM cw ⟨sU.blind, sH.recv E.2.2.2.2.1 hV.1 hc he, fun U hU hW => ⟨rfl, sU.of E.2.2.2.2.1 hV E.2.2.2.2.2.1 U hU hW⟩⟩ rfl hn hsz hst (lv_room hroom) hdg (by rw [hf.1.1, hf.1.2]; exact hf.2)) hV.2.1 (fun q _ h => h) (fun q h => h) (fun r u t H1 locs1 ht hvm hp hB hz hk hS1 => W.cs hf.1.1 hf.1.2 (kk r u.1 u.2 H1 locs1 hp ⟨ht ▸ hB, hS1, hV.2.2⟩))
end LR
/-! the tape's bytes, the signs' ranges -/
theorem tp_ok {x n : Int} {t : sF} (h : tpOk t n) (h3 : n + bn x ≤ 300) : tpOk (tpt x t n 4) (n + bn x) := by
  have key : ∀ j : Nat, j ≤ 4 → ∀ i, 0 ≤ i → i < tpn x n j → 1 ≤ tpt x t n j i ∧ tpt x t n j i ≤ 255 := by
    intro j
    induction j with
    | zero => intro _ i a b; exact h.2.2 i a b
    | succ j ih =>
      intro hj i a b
      have hb := byt_r x (24 - 8 * (j : Int))
      have hl := tpn_le x n j (by omega)
      by_cases e : byt x (24 - 8 * (j : Int)) = 0
      · rw [(tp_z (t := t) (n := n) e).1] at b
        rw [(tp_z (t := t) (n := n) e).2]
        exact ih (by omega) i a b
      · rw [(tp_w (t := t) (n := n) e).1] at b
        rw [(tp_w (t := t) (n := n) e).2]
        unfold iup
        split
        · omega
        · exact ih (by omega) i a (by omega)
  have hb := bn_r x
  refine ⟨by have := h.1; omega, h3, fun i a b => ?_⟩
  exact key 4 (by omega) i a (by rw [tpn_4]; exact b)
theorem ap_ok {t : sF} {n a b c d e : Int} (h : tpOk t n) (h3 : n + apB a b c d e ≤ 300) : tpOk (apT t n a b c d e) (n + apB a b c d e) := by
  have b1 := bn_r a
  have b2 := bn_r b
  have b3 := bn_r c
  have b4 := bn_r d
  have b5 := bn_r e
  unfold apB at h3 ⊢
  have h9 := tp_ok (x := e) (tp_ok (x := d) (tp_ok (x := c) (tp_ok (x := b) (tp_ok (x := a) h (by omega)) (by omega)) (by omega)) (by omega)) (by omega)
  rw [show n + (bn a + bn b + bn c + bn d + bn e) = n + bn a + bn b + bn c + bn d + bn e by omega]
  exact h9
theorem tp_0 (t : sF) : tpOk t 0 := ⟨by omega, by omega, fun i a b => by omega⟩
def gok (g : wG) : Prop := 0 ≤ g.1 ∧ ∀ q, 0 ≤ q → q < g.1 → 0 ≤ g.2 q ∧ g.2 q < 65536
theorem gok_a {g : wG} (h : gok g) {x : Int} (hx : 0 ≤ x ∧ x < 65536) : gok (wrA g x) := by
  refine ⟨?_, fun q a b => ?_⟩
  · show 0 ≤ g.1 + 1
    have := h.1
    omega
  · show 0 ≤ iup g.2 g.1 x q ∧ iup g.2 g.1 x q < 65536
    have b2 : q < g.1 + 1 := b
    unfold iup
    split
    · exact hx
    · exact h.2 q a (by omega)
theorem gok_d {g : wG} (h : gok g) (u v : Int) : gok (dgW u v g) := by
  unfold dgW
  split
  · exact gok_a h (by have := Int.emod_nonneg (v / u) (show (10 : Int) ≠ 0 by omega); have := Int.emod_lt_of_pos (v / u) (show (0 : Int) < 10 by omega); omega)
  · exact h
theorem gok_n {g : wG} (h : gok g) (v : Int) : gok (nmW v g) := by
  unfold nmW nmR
  rw [if_pos rfl]
  exact gok_d (gok_d (gok_d (gok_d (gok_d h _ _) _ _) _ _) _ _) _ _
theorem gok_e {g : wG} (h : gok g) (u v : Int) : gok (cdW u v g) := by
  unfold cdW
  split
  · exact gok_a h (by have := Int.emod_nonneg (v / u) (show (27 : Int) ≠ 0 by omega); have := Int.emod_lt_of_pos (v / u) (show (0 : Int) < 27 by omega); omega)
  · exact h
theorem gok_c {g : wG} (h : gok g) (v : Int) : gok (coW v g) := by
  unfold coW coR
  rw [if_pos rfl]
  exact gok_e (gok_e (gok_e (gok_e h _ _) _ _) _ _) _ _
theorem gok_u {g : wG} (h : gok g) (f : sF) (s : Int) : ∀ k : Nat, gok (nuW f s g k) := by
  intro k
  induction k with
  | zero => exact h
  | succ k ih => exact gok_n (gok_a ih (by omega)) _
theorem gok_s (f : sF) : ∀ k : Nat, gok (wrS f k) := by
  intro k
  induction k with
  | zero => exact ⟨by show (0 : Int) ≤ 0; omega, fun q a b => by have : q < 0 := b; omega⟩
  | succ k ih => exact gok_a (gok_u (gok_c ih _) f _ 4) (by omega)
def wrQ (wc wn : Int) (T T2 : sF) : Prop := ∃ g : wG, gok g ∧ wrE g wc T ∧ wrE g wn T2 ∧ 0 ≤ wc ∧ wc ≤ 180
theorem wrQ_0 (T T2 : sF) : wrQ 0 0 T T2 := ⟨(0, fun _ => 0), ⟨by show (0 : Int) ≤ 0; omega, fun q a b => by have : q < 0 := b; omega⟩, ⟨rfl, fun q a b => by have : q < 0 := b; omega⟩, ⟨rfl, fun q a b => by have : q < 0 := b; omega⟩, by omega, by omega⟩
theorem wrQ_e {wc wn : Int} {T T2 : sF} (h : wrQ wc wn T T2) : wn = wc ∧ (0 ≤ wc ∧ wc ≤ 180) ∧ (∀ q, 0 ≤ q → q < wc → 0 ≤ T q ∧ T q < 65536) ∧ (∀ q, 0 ≤ q → q < wn → 0 ≤ T2 q ∧ T2 q < 65536) ∧ ∀ q, 0 ≤ q → q < wc → T q = T2 q := by
  obtain ⟨g, h1, h2, h3, h4, h5⟩ := h
  have e1 := h2.1
  have e2 := h3.1
  refine ⟨by omega, ⟨h4, h5⟩, fun q a b => ?_, fun q a b => ?_, fun q a b => ?_⟩
  · rw [h2.2 q a (by omega)]
    exact h1.2 q a (by omega)
  · rw [h3.2 q a (by omega)]
    exact h1.2 q a (by omega)
  · rw [h2.2 q a (by omega), h3.2 q a (by omega)]
theorem wrQ_w {f : sF} {wc wn : Int} {T T2 : sF} (h : wrE (wrS f (f 568).toNat) wc T ∧ 0 ≤ wc ∧ wc ≤ 180) (h2 : wrE (wrS f (f 568).toNat) wn T2 ∧ 0 ≤ wn ∧ wn ≤ 180) : wrQ wc wn T T2 := ⟨_, gok_s f _, h.1, h2.1, h.2⟩
/-! the numbers between calls: q calls are behind -/
def gS (q : Int) (f : sF) : Prop := sOk f ∧ dI f ∧ sLi f ∧ f 571 ≤ q
def lF (f : sF) (fs : Int → sF) (ch q : Int) : Prop := gS q f ∧ ∀ i, 0 ≤ i → i < ch → gS q (fs i)
theorem gS_m {f : sF} {q : Int} (h : gS q f) : gS (q + 1) f := ⟨h.1, h.2.1, h.2.2.1, by have := h.2.2.2; omega⟩
theorem lF_s {f : sF} {fs : Int → sF} {ch q : Int} (h : lF f fs ch q) : lF f fs ch (q + 1) := ⟨gS_m h.1, fun i a b => gS_m (h.2 i a b)⟩
theorem lF_k {f f2 : sF} {fs : Int → sF} {ch q : Int} (hc : 0 ≤ ch ∧ ch ≤ 15) (h : lF f fs ch q) (h2 : gS (q + 1) f2) : lF f2 (fsn ch fs f) (chn ch) (q + 1) := by
  refine ⟨h2, fun i a b => ?_⟩
  unfold chn at b
  unfold fsn
  by_cases e : ch = 15
  · rw [if_pos e] at b ⊢
    show gS (q + 1) (if i = 14 then f else fs (i + 1))
    split
    · exact gS_m h.1
    · exact gS_m (h.2 (i + 1) (by omega) (by omega))
  · rw [if_neg e] at b ⊢
    show gS (q + 1) (if i = ch then f else fs i)
    split
    · exact gS_m h.1
    · exact gS_m (h.2 i a (by omega))
theorem g_c {f g : sF} {q : Int} (h : gS q f) (ho : sOk g) (e8 : g 568 = f 568) (h1 : ∀ x, 10 ≤ x → x < 70 → g x = f x) (h2 : ∀ x, 150 ≤ x → x < 164 → g x = f x) (e72 : g 572 = f 572) (h3 : ∀ x, 464 ≤ x → x < 544 → g x = f x) (h4 : g 571 ≤ f 571 + 1) : gS (q + 1) g :=
  ⟨ho, dI_c h.1 h.2.1 e8 (fun x a b => h1 x a (by omega)) h2, sL_c h.2.2.1 e8 e72 (fun x a b => h1 x (by omega) b) h3 (sOk_N h.1), by have := h.2.2.2; omega⟩
theorem g_cp {f g : sF} {q : Int} (h : gS q g) : gS (q + 1) (cpF f g) := by
  have h0 := sOk_N h.1
  have e : ∀ x, 0 ≤ x → x < 574 → cpF f g x = g x := fun x a b => if_pos ⟨a, b⟩
  refine g_c h (ok_mk h.1 ⟨by rw [e 568 (by omega) (by omega)]; omega, by rw [e 569 (by omega) (by omega)]; omega, by rw [e 570 (by omega) (by omega)]; omega, by rw [e 571 (by omega) (by omega)]; omega, by rw [e 572 (by omega) (by omega)]; omega, by rw [e 573 (by omega) (by omega)]; omega⟩ (e 568 (by omega) (by omega)) (by rw [e 571 (by omega) (by omega)]; omega) (Or.inl fun x a b => e x (by omega) (by omega)) (Or.inl ⟨e 569 (by omega) (by omega), fun x a b => e x (by omega) (by omega)⟩) (Or.inl fun x a b => e x (by omega) (by omega)) (Or.inl fun x a b => e x (by omega) (by omega)) (Or.inl ⟨e 570 (by omega) (by omega), fun x a b => e x (by omega) (by omega)⟩) (Or.inl ⟨e 572 (by omega) (by omega), fun x a b => e x (by omega) (by omega)⟩) (Or.inl ⟨e 573 (by omega) (by omega), fun x a b => e x (by omega) (by omega)⟩)) (e 568 (by omega) (by omega)) (fun x a b => e x (by omega) (by omega)) (fun x a b => e x (by omega) (by omega)) (e 572 (by omega) (by omega)) (fun x a b => e x (by omega) (by omega)) (by rw [e 571 (by omega) (by omega)]; omega)
theorem g_sc {f : sF} {q : Int} {a b : Int} (h : gS q f) (hf : f 569 < 40) (ha : 0 ≤ a ∧ a < f 568) (hb : 0 ≤ b ∧ b < f 568) (hn : a ≠ b) : gS (q + 1) (scF f a b) := by
  have h0 := sOk_N h.1
  exact g_c h (ok_sc h.1 hf ha hb hn) (by unfold scF iup; (repeat (first | rw [if_pos (by omega)] | rw [if_neg (by omega)]))) (fun x9 a9 b9 => by unfold scF iup; (repeat (first | rw [if_pos (by omega)] | rw [if_neg (by omega)]))) (fun x9 a9 b9 => by unfold scF iup; (repeat (first | rw [if_pos (by omega)] | rw [if_neg (by omega)]))) (by unfold scF iup; (repeat (first | rw [if_pos (by omega)] | rw [if_neg (by omega)]))) (fun x9 a9 b9 => by unfold scF iup; (repeat (first | rw [if_pos (by omega)] | rw [if_neg (by omega)]))) (by rw [show (scF f a b) 571 = f 571 from by unfold scF iup; (repeat (first | rw [if_pos (by omega)] | rw [if_neg (by omega)]))]; omega)
theorem g_us {f : sF} {q : Int} {a : Int} (h : gS q f) (ha : 0 ≤ a ∧ a < f 569) : gS (q + 1) (usF f a) := by
  have h0 := sOk_N h.1
  exact g_c h (ok_us h.1 ha) (by unfold usF usK; (repeat (first | rw [if_pos (by omega)] | rw [if_neg (by omega)]))) (fun x9 a9 b9 => by unfold usF usK; (repeat (first | rw [if_pos (by omega)] | rw [if_neg (by omega)]))) (fun x9 a9 b9 => by unfold usF usK; (repeat (first | rw [if_pos (by omega)] | rw [if_neg (by omega)]))) (by unfold usF usK; (repeat (first | rw [if_pos (by omega)] | rw [if_neg (by omega)]))) (fun x9 a9 b9 => by unfold usF usK; (repeat (first | rw [if_pos (by omega)] | rw [if_neg (by omega)]))) (by rw [show (usF f a) 571 = f 571 from by unfold usF usK; (repeat (first | rw [if_pos (by omega)] | rw [if_neg (by omega)]))]; omega)
theorem g_tl {f : sF} {q : Int} {s x h2 d : Int} (h : gS q f) (hf : f 570 < 60) (hq : q ≤ 600) (hs : 0 ≤ s ∧ s < f 568) (hd : isDt d) (hx : x = dayI d + 3652) (hh : 0 ≤ h2 ∧ h2 ≤ 6) : gS (q + 1) (tlF f s x h2) := by
  have h0 := sOk_N h.1
  exact g_c h (ok_tl h.1 hf (by have := h.2.2.2; omega) hs hd hx hh) (by unfold tlF iup; (repeat (first | rw [if_pos (by omega)] | rw [if_neg (by omega)]))) (fun x9 a9 b9 => by unfold tlF iup; (repeat (first | rw [if_pos (by omega)] | rw [if_neg (by omega)]))) (fun x9 a9 b9 => by unfold tlF iup; (repeat (first | rw [if_pos (by omega)] | rw [if_neg (by omega)]))) (by unfold tlF iup; (repeat (first | rw [if_pos (by omega)] | rw [if_neg (by omega)]))) (fun x9 a9 b9 => by unfold tlF iup; (repeat (first | rw [if_pos (by omega)] | rw [if_neg (by omega)]))) (by rw [show (tlF f s x h2) 571 = f 571 + 1 from by unfold tlF iup; (repeat (first | rw [if_pos (by omega)] | rw [if_neg (by omega)]))]; omega)
theorem g_tb {f : sF} {q : Int} {a : Int} (h : gS q f) (hq : q ≤ 600) (ha : 0 ≤ a ∧ a < f 570) : gS (q + 1) (tbF f a) := by
  have h0 := sOk_N h.1
  exact g_c h (ok_tb h.1 (by have := h.2.2.2; omega) ha) (by unfold tbF iup; (repeat (first | rw [if_pos (by omega)] | rw [if_neg (by omega)]))) (fun x9 a9 b9 => by unfold tbF iup; (repeat (first | rw [if_pos (by omega)] | rw [if_neg (by omega)]))) (fun x9 a9 b9 => by unfold tbF iup; (repeat (first | rw [if_pos (by omega)] | rw [if_neg (by omega)]))) (by unfold tbF iup; (repeat (first | rw [if_pos (by omega)] | rw [if_neg (by omega)]))) (fun x9 a9 b9 => by unfold tbF iup; (repeat (first | rw [if_pos (by omega)] | rw [if_neg (by omega)]))) (by rw [show (tbF f a) 571 = f 571 + 1 from by unfold tbF iup; (repeat (first | rw [if_pos (by omega)] | rw [if_neg (by omega)]))]; omega)
theorem g_of {f : sF} {q : Int} {a g v : Int} (h : gS q f) (hf : f 573 < 8) (ha : 0 ≤ a ∧ a ≤ 4) (hg : 0 ≤ g ∧ g ≤ 5) (hv : 0 ≤ v ∧ v ≤ 5) (hn : g ≠ v) : gS (q + 1) (ofF f a g v) := by
  have h0 := sOk_N h.1
  exact g_c h (ok_of h.1 hf ha hg hv hn) (by unfold ofF iup; (repeat (first | rw [if_pos (by omega)] | rw [if_neg (by omega)]))) (fun x9 a9 b9 => by unfold ofF iup; (repeat (first | rw [if_pos (by omega)] | rw [if_neg (by omega)]))) (fun x9 a9 b9 => by unfold ofF iup; (repeat (first | rw [if_pos (by omega)] | rw [if_neg (by omega)]))) (by unfold ofF iup; (repeat (first | rw [if_pos (by omega)] | rw [if_neg (by omega)]))) (fun x9 a9 b9 => by unfold ofF iup; (repeat (first | rw [if_pos (by omega)] | rw [if_neg (by omega)]))) (by rw [show (ofF f a g v) 571 = f 571 from by unfold ofF iup; (repeat (first | rw [if_pos (by omega)] | rw [if_neg (by omega)]))]; omega)
theorem g_co {f : sF} {q : Int}  (h : gS q f)  : gS (q + 1) (coF f) := by
  have h0 := sOk_N h.1
  exact g_c h (ok_co h.1) (by unfold coF iup; (repeat (first | rw [if_pos (by omega)] | rw [if_neg (by omega)]))) (fun x9 a9 b9 => by unfold coF iup; (repeat (first | rw [if_pos (by omega)] | rw [if_neg (by omega)]))) (fun x9 a9 b9 => by unfold coF iup; (repeat (first | rw [if_pos (by omega)] | rw [if_neg (by omega)]))) (by unfold coF iup; (repeat (first | rw [if_pos (by omega)] | rw [if_neg (by omega)]))) (fun x9 a9 b9 => by unfold coF iup; (repeat (first | rw [if_pos (by omega)] | rw [if_neg (by omega)]))) (by rw [show (coF f) 571 = f 571 from by unfold coF iup; (repeat (first | rw [if_pos (by omega)] | rw [if_neg (by omega)]))]; omega)
theorem g_sd {f : sF} {q d z v : Int} (h : gS q f) (hd : 0 ≤ d ∧ d ≤ 3) (hz : 0 ≤ z ∧ z ≤ 99) (hv : 0 ≤ v ∧ v ≤ 999) (h1 : isum (f 568) (lyT f d 1) ≤ z) (h2 : isum (f 568) (lyT f d 2) ≤ v) : gS (q + 1) (sdF f d z v) := by
  have h0 := sOk_N h.1
  have zo : ∀ x, (x < 150 ∨ 158 ≤ x) → sdF f d z v x = f x := fun x a => by unfold sdF iup; (repeat (first | rw [if_pos (by omega)] | rw [if_neg (by omega)]))
  exact ⟨ok_sd h.1 (by omega) hz hv, dI_sd h.1 h.2.1 (by omega) h1 h2, sL_c h.2.2.1 (zo _ (by omega)) (zo _ (by omega)) (fun x a b => zo x (by omega)) (fun x a b => zo x (by omega)) h0, by rw [zo 571 (by omega)]; have := h.2.2.2; omega⟩
theorem g_pr {f : sF} {q x y : Int} {B : Prop} (h : gS q f) (hx : 0 ≤ x ∧ x ≤ 5) (hy : 0 ≤ y ∧ y ≤ 5) (hB : ¬ (B ∧ lieP f x y)) : gS (q + 1) (prF f B x y) := by
  have h0 := sOk_N h.1
  have zo : ∀ z, (z < 158 ∨ 164 ≤ z) → prF f B x y z = f z := fun z a => prF_o (by omega) (by omega) (by omega)
  exact ⟨ok_pr h.1 (by omega) (by omega), dI_pr h.1 h.2.1 (by omega) (by omega) hB, sL_c h.2.2.1 (zo _ (by omega)) (zo _ (by omega)) (fun x a b => zo x (by omega)) (fun x a b => zo x (by omega)) h0, by rw [zo 571 (by omega)]; have := h.2.2.2; omega⟩
theorem g_ly {f : sF} {q s d : Int} (h : gS q f) (hs : 0 ≤ s ∧ s < f 568) (hd : d = -1 ∨ 0 ≤ d ∧ d ≤ 3) : gS (q + 1) (layF f s d) := by
  have h0 := sOk_N h.1
  have hd2 := dI_ly h.1 h.2.1 hs (show -1 ≤ d ∧ d < 4 by omega)
  have zo : ∀ z, z ≠ 50 + s → layF f s d z = f z := fun z a => by
    unfold layF
    split
    · exact if_neg a
    · rfl
  refine ⟨?_, hd2, sL_c h.2.2.1 (zo _ (by omega)) (zo _ (by omega)) (fun x a b => zo x (by omega)) (fun x a b => zo x (by omega)) h0, by rw [zo 571 (by omega)]; have := h.2.2.2; omega⟩
  unfold layF
  split
  · exact ok_ly h.1 hs (by omega)
  · exact h.1
theorem g_sl {f : sF} {q s l : Int} (h : gS q f) (hs : 0 ≤ s ∧ s < f 568) (hl : 0 ≤ l ∧ l ≤ 100000) (hc : ∀ y, 1900 ≤ y → y < 2200 → liI f s y ≤ l) : gS (q + 1) (slF f s l) := by
  have h0 := sOk_N h.1
  have zo : ∀ x, x ≠ 60 + s → slF f s l x = f x := fun x a => by unfold slF iup; rw [if_neg a]
  exact ⟨ok_sl h.1 hs hl, dI_c h.1 h.2.1 (zo _ (by omega)) (fun x a b => zo x (by omega)) (fun x a b => zo x (by omega)), sL_sl h.1 h.2.2.1 hs hl.1 hc, by rw [zo 571 (by omega)]; have := h.2.2.2; omega⟩
theorem g_sh {f : sF} {q s d n l : Int} (h : gS q f) (hs : 0 ≤ s ∧ s < f 568) (hd : isDt d ∧ (1 ≤ n ∧ n ≤ 400) ∧ (1 ≤ l ∧ l ≤ 1000) ∧ dayI d + n ≤ 109573) (hf : f 572 < 20) (hc : cbP f s (d / 10000) (dayI d + 3652) n l) : gS (q + 1) (shF f s (dayI d + 3652) n l) := by
  have h0 := sOk_N h.1
  have hy := dt_y hd.1
  have zo : ∀ x, (x < 464 ∨ 544 ≤ x) → x ≠ 572 → shF f s (dayI d + 3652) n l x = f x := fun x a b => by unfold shF iup; (repeat (first | rw [if_pos (by omega)] | rw [if_neg (by omega)]))
  exact ⟨ok_sh h.1 hf hs hd.1 rfl hd.2.1 hd.2.2.1 (by have := hd.2.2.2; omega), dI_c h.1 h.2.1 (zo _ (by omega) (by omega)) (fun x a b => zo x (by omega) (by omega)) (fun x a b => zo x (by omega) (by omega)), sL_sh h.1 h.2.2.1 hs hf hd.2.1 (by omega) hc, by rw [zo 571 (by omega) (by omega)]; have := h.2.2.2; omega⟩
theorem g_com {f t : sF} {q n k z u v : Int} (h : gS q f) (hu : nuP k z u v) (hC : isC t n) (hi : idx (fun q => f q = coA t n 0) (f 568) = -1) (hn : f 568 < 10) : gS (q + 1) (comF f (coA t n 0) k z u v) := by
  have h0 := sOk_N h.1
  have hb := coA_b t n 0
  have hp : 1 ≤ coA t n 0 := coA_p (ltc_lt ⟨by omega, hC.1⟩)
  have hf : ∀ q, 0 ≤ q → q < f 568 → f q ≠ coA t n 0 := fun x a b => by
    rcases idx_cases (fun q => f q = coA t n 0) (f 568) with ⟨c1, c2⟩ | ⟨c1, c2, c3, c4⟩
    · exact c2 x a b
    · omega
  exact ⟨ok_com h.1 (by omega) ⟨hp, hb.2⟩ hf hu, dI_com h.1 h.2.1 (by omega), sL_com h.1 h.2.2.1 (by omega), by rw [cm_o (by omega)]; have := h.2.2.2; omega⟩
theorem g_jn {f t : sF} {q n : Int} (h : gS q f) (ht : tpOk t n) (he : rcE t n = -1) (hj : jnQ f t n) : gS (q + 1) (jnF f t n) := by
  have h0 := sOk_N h.1
  have hO := rc_o (t := t) (n := n) ⟨ht.1, ht.2.1⟩ he
  unfold jnQ jnK at hj
  unfold jnF
  have hk := hO.1
  have ho := ok_jn hO h.1 (rcK t n) ⟨hk, Int.le_refl _⟩ hj.1
  exact ⟨ho, (dI_jn ho).mpr hj.2, sL_jn hO h.1 h.2.2.1 (rcK t n) ⟨hk, Int.le_refl _⟩ hj.1, by rw [jn_o hO h.1 (rcK t n) ⟨hk, Int.le_refl _⟩ hj.1 571 (by omega)]; have := h.2.2.2; omega⟩
theorem g_la {f : sF} {q : Int} {B : Prop} (h : gS q f) (hp : ∃ p, laP f B p) : gS (q + 1) (laF f B) := by
  have h0 := sOk_N h.1
  have hl := laB_ok hp
  have zo : ∀ x, (x < 50 ∨ 60 ≤ x) → laF f B x = f x := fun x a => by unfold laF; rw [if_neg (by omega)]
  refine ⟨?_, dI_la h.1 hl, sL_c h.2.2.1 (zo _ (by omega)) (zo _ (by omega)) (fun x a b => zo x (by omega)) (fun x a b => zo x (by omega)) h0, by rw [zo 571 (by omega)]; have := h.2.2.2; omega⟩
  rw [← laK_n]
  exact ok_lk h.1 ⟨h0.1.1, Int.le_refl _⟩ (fun s a b => (hl s a b).1)
