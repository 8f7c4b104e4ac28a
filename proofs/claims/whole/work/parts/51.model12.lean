/-- where one comes by going on -/
def itN (B : Int → Int) : Nat → Int → Int
  | 0, k => k
  | j + 1, k => B (itN B j k)
def seP (B : Int → Int) (i x : Int) : Prop := ∃ q, 0 ≤ q ∧ q < i ∧ B q ≠ 8 ∧ ∃ j : Nat, x = itN B j q
noncomputable def rgT (B : Int → Int) (k : Int) : Int := pif (B k ≠ 8 ∧ ¬ seP B k k) 1 0
noncomputable def rgI (f : sF) : Int := isum (f 573) (rgT (plnB f))
/-- those in the plan go on among themselves -/
theorem it_in {f B : sF} (hg : allG f B) (hp : prmP f B) {q : Int} (h : 0 ≤ q ∧ q < f 573 ∧ B q ≠ 8) (j : Nat) : 0 ≤ itN B j q ∧ itN B j q < f 573 ∧ B (itN B j q) ≠ 8 := by
  induction j with
  | zero => exact h
  | succ j ih =>
    have h1 := hg _ ih.1 ih.2.1
    have h2 := h1.2.resolve_left ih.2.2
    show 0 ≤ B (itN B j q) ∧ B (itN B j q) < f 573 ∧ B (B (itN B j q)) ≠ 8
    exact ⟨h1.1.1, h2.1, (hp _ h1.1.1 h2.1).mpr ⟨_, ih.1, ih.2.1, rfl⟩⟩
theorem it_c {f B B2 : sF} (hg : allG f B) (hp : prmP f B) (h : ∀ o, 0 ≤ o → o < f 573 → B o = B2 o) {q : Int} (hq : 0 ≤ q ∧ q < f 573 ∧ B q ≠ 8) (j : Nat) : itN B j q = itN B2 j q := by
  induction j with
  | zero => rfl
  | succ j ih =>
    have h1 := it_in hg hp hq j
    show B (itN B j q) = B2 (itN B2 j q)
    rw [← ih, h _ h1.1 h1.2.1]
theorem rg_c {f B B2 : sF} (hg : allG f B) (hp : prmP f B) (h : ∀ o, 0 ≤ o → o < f 573 → B o = B2 o) : isum (f 573) (rgT B) = isum (f 573) (rgT B2) := by
  refine isum_c fun k a b => ?_
  unfold rgT
  apply pif_c
  rw [h k a b]
  have e : seP B k k ↔ seP B2 k k := by
    unfold seP
    constructor
    · rintro ⟨q, c, d, e, j, g⟩
      exact ⟨q, c, d, by rw [← h q c (by omega)]; exact e, j, by rw [← it_c hg hp h ⟨c, by omega, e⟩ j]; exact g⟩
    · rintro ⟨q, c, d, e, j, g⟩
      have e2 : B q ≠ 8 := by rw [h q c (by omega)]; exact e
      exact ⟨q, c, d, e2, j, by rw [it_c hg hp h ⟨c, by omega, e2⟩ j]; exact g⟩
  rw [e]
theorem se_cl {B : Int → Int} {i y : Int} (h : seP B i y) : seP B i (B y) := by
  obtain ⟨q, a, b, c, j, d⟩ := h
  exact ⟨q, a, b, c, j + 1, by rw [d]; rfl⟩
theorem it_add (B : Int → Int) (i j : Nat) (q : Int) : itN B (i + j) q = itN B i (itN B j q) := by
  induction i with
  | zero => rw [Nat.zero_add]; rfl
  | succ i ih =>
    rw [show i + 1 + j = (i + j) + 1 by omega]
    show B (itN B (i + j) q) = B (itN B i (itN B j q))
    rw [ih]
theorem se_it {B : Int → Int} {i y : Int} (h : seP B i y) (j : Nat) : seP B i (itN B j y) := by
  induction j with
  | zero => exact h
  | succ j ih => exact se_cl ih
/-- nothing new comes by one that is out, or seen -/
theorem se_s0 {B : Int → Int} {i : Int} (hi : 0 ≤ i) (h : B i = 8 ∨ seP B i i) (x : Int) : seP B i x ↔ seP B (i + 1) x := by
  constructor
  · rintro ⟨q, a, b, c⟩
    exact ⟨q, a, by omega, c⟩
  · rintro ⟨q, a, b, c, j, d⟩
    by_cases e : q = i
    · subst e
      rcases h with h | h
      · exact absurd h c
      · rw [d]; exact se_it h j
    · exact ⟨q, a, by omega, c, j, d⟩
/-- the whole ring, once one comes to a seen one -/
theorem se_s1 {B : Int → Int} {i : Int} (hi : 0 ≤ i) (h8 : B i ≠ 8) (j : Nat) (S : Int → Prop) (hS : ∀ x, 0 ≤ x → (S x ↔ seP B i x ∨ ∃ r : Nat, r < j ∧ x = itN B r i)) (h0 : ∀ r : Nat, 0 ≤ itN B r i) (he : S (itN B j i)) (x : Int) (hx : 0 ≤ x) : S x ↔ seP B (i + 1) x := by
  have key : ∀ r : Nat, S (itN B r i) := by
    intro r
    induction r with
    | zero =>
      by_cases e : j = 0
      · rw [e] at he; exact he
      · exact (hS _ (h0 0)).mpr (Or.inr ⟨0, by omega, rfl⟩)
    | succ r ih =>
      rcases (hS _ (h0 r)).mp ih with q | ⟨t, a, b⟩
      · exact (hS _ (h0 (r + 1))).mpr (Or.inl (se_cl q))
      · have e : itN B (r + 1) i = itN B (t + 1) i := by show B (itN B r i) = B (itN B t i); rw [b]
        rw [e]
        by_cases c : t + 1 = j
        · rw [c]; exact he
        · exact (hS _ (h0 (t + 1))).mpr (Or.inr ⟨t + 1, by omega, rfl⟩)
  constructor
  · intro h
    rcases (hS x hx).mp h with ⟨q, a, b, c⟩ | ⟨r, a, b⟩
    · exact ⟨q, a, by omega, c⟩
    · exact ⟨i, hi, by omega, h8, r, b⟩
  · rintro ⟨q, a, b, c, r, d⟩
    by_cases e : q = i
    · subst e; rw [d]; exact key r
    · exact (hS x hx).mpr (Or.inl ⟨q, a, by omega, c, r, d⟩)

abbrev rmX11_plan : Room := { frames := 4, cells := 0, slots := 0, locals := 109 }
set_option maxHeartbeats 4000000 in
set_option maxRecDepth 100000 in
theorem kX11_plan (l_ : Launch) (G : sG) (b_ : Nat) (M : sM) (N : Nat) (m : Nat) (th ch tn ea sn nm wn : Int) (f : sF) (gt bs : sF) (hm0 : M m = some (mO m th ch tn ea sn nm wn)) (hm1 : M (m + 1) = some (sArr G 574 f)) (hm10 : M (m + 10) = some (sArr G 8 gt)) (hm11 : M (m + 11) = some (sArr G 8 bs)) (hok : sOk f) : cI l_ yX11_plan wsX11_plan rmX11_plan G b_ M N [.ref m] (fun z_ M1 N1 => ∃ b9 : Int → Int, ∃ g9 : Int → Int, N1 = N ∧ M1 (m + 10) = some (sArr G 8 g9) ∧ M1 (m + 11) = some (sArr G 8 b9) ∧ (∀ x : Nat, ¬ (x = m) → ¬ (x = m + 10) → ¬ (x = m + 11) → M1 x = M x) ∧ (((True) ∧ z_ = plnM f ∧ M1 m = some (mO m 0 ch tn ea sn nm wn)))) := by
  refine sE.ofI (cc := cX11_plan) (nL := 1) (ret := (some .int)) (by decide) rfl (Nat.le_of_ble_eq_true rfl) ?_
  intro p_ e_ s_ m_ args_ below_ meth_ c_ ls Q hQ E hl
  have E : sE p_ l_ e_ rmX11_plan s_ m_ args_ below_ meth_ c_ cX11_plan 1 wsX11_plan RX11 "plan" (some .int) G b_ M N := E
  have S := E.1
  have hx_ := S.1
  have hb_ := S.2.1
  have hK := E.2.2.2.2.1
  have hV := E.2.2.2.2.2.2
  have hl : lv_has ls 1 [(0, .ref m)] := hl
  have inX11_ : ∀ w ∈ wsX110, w ∈ wsX11_plan := fun _ h => List.mem_cons_of_mem _ (List.mem_append_right _ h)
  have kn0 := sOk_N hok
  refine lv_aload_n hx_ hb_ dX11_plan_0 rfl (lv_at hl 0 rfl) ?_
  refine si_const S dX11_plan_1 ?_
  refine sc_put (ci := 9) (C := RX11) (T := TX11) (n := 22) S hK hV inX11_ tyX11_ok nmX11 hm0 rfl 0 (by decide) (S.2.2.2.2 _ (List.mem_of_getElem? (i := 1) rfl)) rfl rfl rfl rfl (Nat.le_of_ble_eq_true rfl) dX11_plan_2 (fs1 := [.int (sI 0), .ref (m + 1), .ref (m + 2), .int (sI ch), .ref (m + 3), .int (sI tn), .int (sI ea), .ref (m + 4), .ref (m + 5), .ref (m + 6), .ref (m + 7), .ref (m + 8), .ref (m + 9), .int (sI sn), .ref (m + 10), .ref (m + 11), .ref (m + 12), .ref (m + 13), .int (sI nm), .ref (m + 14), .ref (m + 15), .int (sI wn)]) rfl (fun M1 H locs hM1 hV => ?_)
  have hc2 : M1 m = some (mO m 0 ch tn ea sn nm wn) := (congrFun hM1 m).trans (va_up_self M m _)
  refine lv_aload_n hx_ hb_ dX11_plan_5 rfl (lv_at hl 0 rfl) ?_
  have hc3 : M1 (m + 1) = some (sArr G 574 f) := ((congrFun hM1 (m + 1)).trans (va_up_ne M _ (by omega))).trans hm1
  have hc4 : M1 (m + 10) = some (sArr G 8 gt) := ((congrFun hM1 (m + 10)).trans (va_up_ne M _ (by omega))).trans hm10
  have hc5 : M1 (m + 11) = some (sArr G 8 bs) := ((congrFun hM1 (m + 11)).trans (va_up_ne M _ (by omega))).trans hm11
  refine sk_Vi E hV (As := []) (rest := []) (kX11_findsPlan l_ G b_ M1 N m 0 ch tn ea sn nm wn f gt bs hc2 hc3 hc4 hc5 (by omega)) (cwV 0 S.2.2.2.2 gX11_plan_X11_findsPlan rfl rfl rfl (by decide +kernel) ⟨Nat.le_of_ble_eq_true rfl, Nat.le_of_ble_eq_true rfl⟩) (ci := 9) hc2 rfl rfl rfl hl.1 (Nat.le_of_ble_eq_true rfl) dX11_plan_6 (c1 := 0) (s1 := 0) ⟨⟨rfl, rfl⟩, by decide, by decide⟩ (fun z9 M6 N7 H locs hp8 hV => ?_)
  obtain ⟨b910, g911, hN12, hc13, hc14, hf15, hopt16⟩ := hp8
  rw [hN12] at hV
  have hpe := pln_eq hopt16
  have hc17 : M6 m = some (mO m 0 ch tn ea sn nm wn) := (hf15 m (by omega) (by omega)).trans hc2
  exact sr_i E hQ dX11_plan_9 ⟨Nat.le_of_ble_eq_true rfl, Nat.le_of_ble_eq_true rfl⟩ hV (⟨b910, g911, rfl, hc13, hc14, fun x q0 q1 q2 => (hf15 x (by omega) (by omega)).trans ((congrFun hM1 x).trans (va_up_ne M _ (by omega))), ⟨(trivial), hpe.1.symm, hc17⟩⟩)

abbrev rmX11_getsFrom : Room := { frames := 4, cells := 0, slots := 0, locals := 109 }
set_option maxHeartbeats 4000000 in
set_option maxRecDepth 100000 in
theorem kX11_getsFrom (l_ : Launch) (G : sG) (b_ : Nat) (M : sM) (N : Nat) (m : Nat) (th ch tn ea sn nm wn : Int) (f : sF) (gt bs : sF) (o : Int) (hm0 : M m = some (mO m th ch tn ea sn nm wn)) (hm1 : M (m + 1) = some (sArr G 574 f)) (hm10 : M (m + 10) = some (sArr G 8 gt)) (hm11 : M (m + 11) = some (sArr G 8 bs)) (hok : sOk f) (hr : sR o) : cI l_ yX11_getsFrom wsX11_getsFrom rmX11_getsFrom G b_ M N [.ref m, .int (sI o)] (fun z_ M1 N1 => ∃ b9 : Int → Int, ∃ g9 : Int → Int, N1 = N ∧ M1 (m + 10) = some (sArr G 8 g9) ∧ M1 (m + 11) = some (sArr G 8 b9) ∧ (∀ x : Nat, ¬ (x = m) → ¬ (x = m + 10) → ¬ (x = m + 11) → M1 x = M x) ∧ (((¬ (0 ≤ o ∧ o < f 573)) ∧ z_ = 0 ∧ M1 m = some (mO m 1 ch tn ea sn nm wn)) ∨ ((0 ≤ o ∧ o < f 573) ∧ z_ = (if plnB f o = 8 then -1 else plnB f o) ∧ M1 m = some (mO m 0 ch tn ea sn nm wn)))) := by
  refine sE.ofI (cc := cX11_getsFrom) (nL := 3) (ret := (some .int)) (by decide) rfl (Nat.le_of_ble_eq_true rfl) ?_
  intro p_ e_ s_ m_ args_ below_ meth_ c_ ls Q hQ E hl
  have E : sE p_ l_ e_ rmX11_getsFrom s_ m_ args_ below_ meth_ c_ cX11_getsFrom 3 wsX11_getsFrom RX11 "getsFrom" (some .int) G b_ M N := E
  have S := E.1
  have hx_ := S.1
  have hb_ := S.2.1
  have hK := E.2.2.2.2.1
  have hV := E.2.2.2.2.2.2
  have hl : lv_has ls 3 [(0, .ref m), (1, .int (sI o))] := hl
  have inX11_ : ∀ w ∈ wsX110, w ∈ wsX11_getsFrom := fun _ h => List.mem_cons_of_mem _ (List.mem_append_right _ h)
  have kn0 := sOk_N hok
  refine lv_aload_n hx_ hb_ dX11_getsFrom_0 rfl (lv_at hl 0 rfl) ?_
  refine si_const S dX11_getsFrom_1 ?_
  refine sc_put (ci := 9) (C := RX11) (T := TX11) (n := 22) S hK hV inX11_ tyX11_ok nmX11 hm0 rfl 0 (by decide) (S.2.2.2.2 _ (List.mem_of_getElem? (i := 1) rfl)) rfl rfl rfl rfl (Nat.le_of_ble_eq_true rfl) dX11_getsFrom_2 (fs1 := [.int (sI 0), .ref (m + 1), .ref (m + 2), .int (sI ch), .ref (m + 3), .int (sI tn), .int (sI ea), .ref (m + 4), .ref (m + 5), .ref (m + 6), .ref (m + 7), .ref (m + 8), .ref (m + 9), .int (sI sn), .ref (m + 10), .ref (m + 11), .ref (m + 12), .ref (m + 13), .int (sI nm), .ref (m + 14), .ref (m + 15), .int (sI wn)]) rfl (fun M1 H locs hM1 hV => ?_)
  have hc2 : M1 m = some (mO m 0 ch tn ea sn nm wn) := (congrFun hM1 m).trans (va_up_self M m _)
  refine lv_aload_n hx_ hb_ dX11_getsFrom_5 rfl (lv_at hl 0 rfl) ?_
  refine lv_iload_n hx_ hb_ dX11_getsFrom_6 rfl (lv_at hl 1 rfl) ?_
  refine si_const S dX11_getsFrom_7 ?_
  refine lv_aload_n hx_ hb_ dX11_getsFrom_8 rfl (lv_at hl 0 rfl) ?_
  refine sc_get (ci := 9) (C := RX11) (T := TX11) (n := 22) S hK hV inX11_ hc2 rfl 1 (by decide) (S.2.2.2.2 _ (List.mem_of_getElem? (i := 2) rfl)) rfl rfl dX11_getsFrom_9 ?_
  refine si_sipush S dX11_getsFrom_12 (by decide) ?_
  have hc3 : M1 (m + 1) = some (sArr G 574 f) := ((congrFun hM1 (m + 1)).trans (va_up_ne M _ (by omega))).trans hm1
  refine sc_iald S hK hV hc3 (by omega) dX11_getsFrom_15 ?_
  refine si_const S dX11_getsFrom_16 ?_
  refine si_sub S dX11_getsFrom_17 ?_
  refine sk_SP E hV (As := [.int (sI o), .int (sI 0), .int (sI ((f 573) - 1))]) (rest := [.ref m]) (kX11_in l_ G b_ M1 N o 0 ((f 573) - 1) (by omega)) (va_cwS 3 S.2.2.2.2 gX11_getsFrom_X11_in rfl rfl rfl (by decide +kernel) ⟨Nat.le_of_ble_eq_true rfl, Nat.le_of_ble_eq_true rfl⟩) rfl rfl hl.1 (Nat.le_of_ble_eq_true rfl) dX11_getsFrom_18 (c1 := 0) (s1 := 0) ⟨⟨rfl, rfl⟩, by decide, by decide⟩ (fun H locs hV => ?_)
  refine si_const S dX11_getsFrom_21 ?_
  refine sk_Vi E hV (As := [.int (sI (bI (0 ≤ o ∧ o ≤ ((f 573) - 1)))), .int (sI 1)]) (rest := []) (kX11_fails l_ G b_ M1 N m ch tn ea sn nm wn 1 (0 ≤ o ∧ o ≤ ((f 573) - 1)) hc2 (by omega)) (cwV 2 S.2.2.2.2 gX11_getsFrom_X11_fails rfl rfl rfl (by decide +kernel) ⟨Nat.le_of_ble_eq_true rfl, Nat.le_of_ble_eq_true rfl⟩) (ci := 9) hc2 rfl rfl rfl hl.1 (Nat.le_of_ble_eq_true rfl) dX11_getsFrom_22 (c1 := 0) (s1 := 0) ⟨⟨rfl, rfl⟩, by decide, by decide⟩ (fun z7 M4 N5 H locs hp6 hV => ?_)
  obtain ⟨hN8, hf9, hq10⟩ := hp6
  rw [hN8] at hV
  rcases hq10 with ⟨c11, ez12, hc13⟩ | ⟨c14, ez15, hc16⟩
  · rw [ez12]
    refine sz_eq (tgt := 30) S dX11_getsFrom_25 (by decide) (by omega) (fun _ => ?_) (fun c17 => absurd c17 (by omega))
    refine lv_aload_n hx_ hb_ dX11_getsFrom_30 rfl (lv_at hl 0 rfl) ?_
    have hc18 : M4 (m + 1) = some (sArr G 574 f) := (hf9 (m + 1) (by omega)).trans hc3
    have hc19 : M4 (m + 10) = some (sArr G 8 gt) := ((hf9 (m + 10) (by omega)).trans ((congrFun hM1 (m + 10)).trans (va_up_ne M _ (by omega)))).trans hm10
    have hc20 : M4 (m + 11) = some (sArr G 8 bs) := ((hf9 (m + 11) (by omega)).trans ((congrFun hM1 (m + 11)).trans (va_up_ne M _ (by omega)))).trans hm11
    refine sk_Vi E hV (As := []) (rest := []) (kX11_findsPlan l_ G b_ M4 N m 0 ch tn ea sn nm wn f gt bs hc13 hc18 hc19 hc20 (by omega)) (cwV 0 S.2.2.2.2 gX11_getsFrom_X11_findsPlan rfl rfl rfl (by decide +kernel) ⟨Nat.le_of_ble_eq_true rfl, Nat.le_of_ble_eq_true rfl⟩) (ci := 9) hc13 rfl rfl rfl hl.1 (Nat.le_of_ble_eq_true rfl) dX11_getsFrom_31 (c1 := 0) (s1 := 0) ⟨⟨rfl, rfl⟩, by decide, by decide⟩ (fun z24 M21 N22 H locs hp23 hV => ?_)
    obtain ⟨b925, g926, hN27, hc28, hc29, hf30, hopt31⟩ := hp23
    rw [hN27] at hV
    have hpe := pln_eq hopt31
    refine lv_istore_n (lv' := [(2, .int (sI z24)), (0, .ref m), (1, .int (sI o))]) hx_ hb_ dX11_getsFrom_34 rfl hl (by decide) rfl (fun ls hl => ?_)
    refine lv_aload_n hx_ hb_ dX11_getsFrom_35 rfl (lv_at hl 1 rfl) ?_
    have hc32 : M21 m = some (mO m 0 ch tn ea sn nm wn) := (hf30 m (by omega) (by omega)).trans hc13
    refine sc_get (ci := 9) (C := RX11) (T := TX11) (n := 22) S hK hV inX11_ hc32 rfl 15 (by decide) (S.2.2.2.2 _ (List.mem_of_getElem? (i := 3) rfl)) rfl rfl dX11_getsFrom_36 ?_
    refine lv_iload_n hx_ hb_ dX11_getsFrom_39 rfl (lv_at hl 2 rfl) ?_
    refine sc_iald S hK hV hc29 (by omega) dX11_getsFrom_40 ?_
    refine si_bipush S dX11_getsFrom_41 (by decide) ?_
    have hbo := hpe.2.1 o (by omega) (by omega)
    have hbr := (hpe.2.2.1 o (by omega) (by omega)).1
    rw [hbo] at hbr
    refine sb_ne (tgt := 50) S dX11_getsFrom_43 (by decide) (by omega) (fun c33 => ?_) (fun c33 => ?_)
    · refine lv_aload_n hx_ hb_ dX11_getsFrom_50 rfl (lv_at hl 1 rfl) ?_
      refine sc_get (ci := 9) (C := RX11) (T := TX11) (n := 22) S hK hV inX11_ hc32 rfl 15 (by decide) (S.2.2.2.2 _ (List.mem_of_getElem? (i := 3) rfl)) rfl rfl dX11_getsFrom_51 ?_
      refine lv_iload_n hx_ hb_ dX11_getsFrom_54 rfl (lv_at hl 2 rfl) ?_
      refine sc_iald S hK hV hc29 (by omega) dX11_getsFrom_55 ?_
      exact sr_i E hQ dX11_getsFrom_56 ⟨Nat.le_of_ble_eq_true rfl, Nat.le_of_ble_eq_true rfl⟩ hV (⟨b925, g926, rfl, hc28, hc29, fun x q0 q1 q2 => ((hf30 x (by omega) (by omega)).trans (hf9 x (by omega))).trans ((congrFun hM1 x).trans (va_up_ne M _ (by omega))), Or.inr (⟨(by omega), by rw [hpe.2.1 o (by omega) (by omega)]; first | rw [if_pos (by omega)] | rw [if_neg (by omega)], hc32⟩)⟩)
    · refine si_const S dX11_getsFrom_46 ?_
      refine lv_goto (tgt := 56) hx_ hb_ dX11_getsFrom_47 (by decide) ?_
      exact sr_i E hQ dX11_getsFrom_56 ⟨Nat.le_of_ble_eq_true rfl, Nat.le_of_ble_eq_true rfl⟩ hV (⟨b925, g926, rfl, hc28, hc29, fun x q0 q1 q2 => ((hf30 x (by omega) (by omega)).trans (hf9 x (by omega))).trans ((congrFun hM1 x).trans (va_up_ne M _ (by omega))), Or.inr (⟨(by omega), by rw [hpe.2.1 o (by omega) (by omega)]; first | rw [if_pos (by omega)] | rw [if_neg (by omega)], hc32⟩)⟩)
  · rw [ez15]
    refine sz_eq (tgt := 30) S dX11_getsFrom_25 (by decide) (by omega) (fun c34 => absurd c34 (by omega)) (fun _ => ?_)
    refine si_const S dX11_getsFrom_28 ?_
    have hc35 : M4 (m + 11) = some (sArr G 8 bs) := ((hf9 (m + 11) (by omega)).trans ((congrFun hM1 (m + 11)).trans (va_up_ne M _ (by omega)))).trans hm11
    have hc36 : M4 (m + 10) = some (sArr G 8 gt) := ((hf9 (m + 10) (by omega)).trans ((congrFun hM1 (m + 10)).trans (va_up_ne M _ (by omega)))).trans hm10
    exact sr_i E hQ dX11_getsFrom_29 ⟨Nat.le_of_ble_eq_true rfl, Nat.le_of_ble_eq_true rfl⟩ hV (⟨bs, gt, rfl, hc36, hc35, fun x q0 q1 q2 => (hf9 x (by omega)).trans ((congrFun hM1 x).trans (va_up_ne M _ (by omega))), Or.inl ⟨(by omega), rfl, hc16⟩⟩)

abbrev rmX11_rings : Room := { frames := 4, cells := 0, slots := 0, locals := 109 }
set_option maxHeartbeats 4000000 in
set_option maxRecDepth 100000 in
theorem kX11_rings (l_ : Launch) (G : sG) (b_ : Nat) (M : sM) (N : Nat) (m : Nat) (th ch tn ea sn nm wn : Int) (f : sF) (gt bs : sF) (hm0 : M m = some (mO m th ch tn ea sn nm wn)) (hm1 : M (m + 1) = some (sArr G 574 f)) (hm10 : M (m + 10) = some (sArr G 8 gt)) (hm11 : M (m + 11) = some (sArr G 8 bs)) (hok : sOk f) : cI l_ yX11_rings wsX11_rings rmX11_rings G b_ M N [.ref m] (fun z_ M1 N1 => ∃ b9 : Int → Int, ∃ g9 : Int → Int, N1 = N ∧ M1 (m + 10) = some (sArr G 8 g9) ∧ M1 (m + 11) = some (sArr G 8 b9) ∧ (∀ x : Nat, ¬ (x = m) → ¬ (x = m + 10) → ¬ (x = m + 11) → M1 x = M x) ∧ (((True) ∧ z_ = rgI f ∧ M1 m = some (mO m 0 ch tn ea sn nm wn)))) := by
  refine sE.ofI (cc := cX11_rings) (nL := 6) (ret := (some .int)) (by decide) rfl (Nat.le_of_ble_eq_true rfl) ?_
  intro p_ e_ s_ m_ args_ below_ meth_ c_ ls Q hQ E hl
  have E : sE p_ l_ e_ rmX11_rings s_ m_ args_ below_ meth_ c_ cX11_rings 6 wsX11_rings RX11 "rings" (some .int) G b_ M N := E
  have S := E.1
  have hx_ := S.1
  have hb_ := S.2.1
  have hK := E.2.2.2.2.1
  have hV := E.2.2.2.2.2.2
  have hl : lv_has ls 6 [(0, .ref m)] := hl
  have inX11_ : ∀ w ∈ wsX110, w ∈ wsX11_rings := fun _ h => List.mem_cons_of_mem _ (List.mem_append_right _ h)
  have kn0 := sOk_N hok
  refine lv_aload_n hx_ hb_ dX11_rings_0 rfl (lv_at hl 0 rfl) ?_
  refine si_const S dX11_rings_1 ?_
  refine sc_put (ci := 9) (C := RX11) (T := TX11) (n := 22) S hK hV inX11_ tyX11_ok nmX11 hm0 rfl 0 (by decide) (S.2.2.2.2 _ (List.mem_of_getElem? (i := 1) rfl)) rfl rfl rfl rfl (Nat.le_of_ble_eq_true rfl) dX11_rings_2 (fs1 := [.int (sI 0), .ref (m + 1), .ref (m + 2), .int (sI ch), .ref (m + 3), .int (sI tn), .int (sI ea), .ref (m + 4), .ref (m + 5), .ref (m + 6), .ref (m + 7), .ref (m + 8), .ref (m + 9), .int (sI sn), .ref (m + 10), .ref (m + 11), .ref (m + 12), .ref (m + 13), .int (sI nm), .ref (m + 14), .ref (m + 15), .int (sI wn)]) rfl (fun M1 H locs hM1 hV => ?_)
  have hc2 : M1 m = some (mO m 0 ch tn ea sn nm wn) := (congrFun hM1 m).trans (va_up_self M m _)
  refine lv_aload_n hx_ hb_ dX11_rings_5 rfl (lv_at hl 0 rfl) ?_
  have hc3 : M1 (m + 1) = some (sArr G 574 f) := ((congrFun hM1 (m + 1)).trans (va_up_ne M _ (by omega))).trans hm1
  have hc4 : M1 (m + 10) = some (sArr G 8 gt) := ((congrFun hM1 (m + 10)).trans (va_up_ne M _ (by omega))).trans hm10
  have hc5 : M1 (m + 11) = some (sArr G 8 bs) := ((congrFun hM1 (m + 11)).trans (va_up_ne M _ (by omega))).trans hm11
  refine sk_Vi E hV (As := []) (rest := []) (kX11_findsPlan l_ G b_ M1 N m 0 ch tn ea sn nm wn f gt bs hc2 hc3 hc4 hc5 (by omega)) (cwV 0 S.2.2.2.2 gX11_rings_X11_findsPlan rfl rfl rfl (by decide +kernel) ⟨Nat.le_of_ble_eq_true rfl, Nat.le_of_ble_eq_true rfl⟩) (ci := 9) hc2 rfl rfl rfl hl.1 (Nat.le_of_ble_eq_true rfl) dX11_rings_6 (c1 := 0) (s1 := 0) ⟨⟨rfl, rfl⟩, by decide, by decide⟩ (fun z9 M6 N7 H locs hp8 hV => ?_)
  obtain ⟨b910, g911, hN12, hc13, hc14, hf15, hopt16⟩ := hp8
  rw [hN12] at hV
  have hpe := pln_eq hopt16
  have hag := hopt16.1
  have hpm : prmP f b910 := by have h1 := hopt16.2.1; have h2 := hopt16.2.2.1; exact Classical.not_not.mp fun q => by unfold plI at h1; rw [pif_f q] at h1; omega
  refine lv_istore_n (lv' := [(1, .int (sI z9)), (0, .ref m)]) hx_ hb_ dX11_rings_9 rfl hl (by decide) rfl (fun ls hl => ?_)
  refine si_const S dX11_rings_10 ?_
  refine lv_istore_n (lv' := [(2, .int (sI 0)), (1, .int (sI z9)), (0, .ref m)]) hx_ hb_ dX11_rings_11 rfl hl (by decide) rfl (fun ls hl => ?_)
  refine si_const S dX11_rings_12 ?_
  refine lv_istore_n (lv' := [(3, .int (sI 0)), (2, .int (sI 0)), (1, .int (sI z9)), (0, .ref m)]) hx_ hb_ dX11_rings_13 rfl hl (by decide) rfl (fun ls hl => ?_)
  refine si_const S dX11_rings_14 ?_
  refine lv_istore (lv' := [(4, .int (sI 0)), (3, .int (sI 0)), (2, .int (sI 0)), (1, .int (sI z9)), (0, .ref m)]) hx_ hb_ dX11_rings_15 hl (by decide) rfl (fun ls hl => ?_)
  have L17 : ∀ (fuel : Nat) (c : Int) (v : Int) (k : Int)  (H : Heap) (locs : List Loc) (ls : Array Slot), ((f 573 - k).toNat) < fuel → (0 ≤ k ∧ k ≤ f 573) → (0 ≤ v ∧ v ≤ 2147483647) → (∀ x, 0 ≤ x → (tb v x ↔ seP b910 k x)) → (c = isum k (rgT b910)) → sV G b_ M6 N s_ H locs → lv_has ls 6 [(0, .ref m), (2, .int (sI c)), (3, .int (sI v)), (4, .int (sI k))] → W p_ l_ e_ rmX11_rings s_ m_ args_ below_ meth_ c_ H locs 0 0 Q (F0 m_ 17 ls []) := by
    intro fuel
    induction fuel with
    | zero => intro c v k H locs ls hmu; exact absurd hmu (Nat.not_lt_zero _)
    | succ fuel ih17 =>
      intro c v k H locs ls hmu17 hv17_0 hsr hse hc  hV hl
      refine lv_iload hx_ hb_ dX11_rings_17 (lv_at hl 3 rfl) ?_
      refine lv_aload_n hx_ hb_ dX11_rings_19 rfl (lv_at hl 0 rfl) ?_
      have hc17 : M6 m = some (mO m 0 ch tn ea sn nm wn) := (hf15 m (by omega) (by omega)).trans hc2
      refine sc_get (ci := 9) (C := RX11) (T := TX11) (n := 22) S hK hV inX11_ hc17 rfl 1 (by decide) (S.2.2.2.2 _ (List.mem_of_getElem? (i := 2) rfl)) rfl rfl dX11_rings_20 ?_
      refine si_sipush S dX11_rings_23 (by decide) ?_
      have hc18 : M6 (m + 1) = some (sArr G 574 f) := (hf15 (m + 1) (by omega) (by omega)).trans hc3
      refine sc_iald S hK hV hc18 (by omega) dX11_rings_26 ?_
      refine sb_ge (tgt := 96) S dX11_rings_27 (by decide) (by omega) (fun c19 => ?_) (fun c19 => ?_)
      · refine lv_iload_n hx_ hb_ dX11_rings_96 rfl (lv_at hl 1 rfl) ?_
        exact sr_i E hQ dX11_rings_97 ⟨Nat.le_of_ble_eq_true rfl, Nat.le_of_ble_eq_true rfl⟩ hV (⟨b910, g911, rfl, hc13, hc14, fun x q0 q1 q2 => (hf15 x (by omega) (by omega)).trans ((congrFun hM1 x).trans (va_up_ne M _ (by omega))), ⟨(trivial), by unfold rgI; rw [hc, show k = f 573 by omega]; exact rg_c hag hpm (fun o a b => (hpe.2.1 o a b).symm), hc17⟩⟩)
      · refine lv_aload_n hx_ hb_ dX11_rings_30 rfl (lv_at hl 0 rfl) ?_
        refine sc_get (ci := 9) (C := RX11) (T := TX11) (n := 22) S hK hV inX11_ hc17 rfl 15 (by decide) (S.2.2.2.2 _ (List.mem_of_getElem? (i := 3) rfl)) rfl rfl dX11_rings_31 ?_
        refine lv_iload hx_ hb_ dX11_rings_34 (lv_at hl 3 rfl) ?_
        refine sc_iald S hK hV hc14 (by omega) dX11_rings_36 ?_
        refine si_bipush S dX11_rings_37 (by decide) ?_
        have hbr := (hag k (by omega) (by omega)).1
        refine sb_eq (tgt := 90) S dX11_rings_39 (by decide) (by omega) (fun c20 => ?_) (fun c20 => ?_)
        · refine si_inc (lv' := [(4, .int (sI (k + 1))), (0, .ref m), (2, .int (sI c)), (3, .int (sI v))]) S dX11_rings_90 hl (k := 3) rfl (by decide) rfl (fun ls hl => ?_)
          refine lv_goto (tgt := 17) hx_ hb_ dX11_rings_93 (by decide) ?_
          exact ih17 c v (k + 1) _ _ _ (by omega) (by omega) (by omega) (fun x a => (hse x a).trans (se_s0 (by omega) (Or.inl (by omega)) x)) (by have e := isum_s (rgT b910) (show 0 ≤ k by omega); rw [e, hc]; unfold rgT; rw [pif_f (fun q => q.1 (by omega))]; omega) hV (lv_sub hl [1, 2, 3, 0] rfl)
        · refine lv_iload_n hx_ hb_ dX11_rings_42 rfl (lv_at hl 2 rfl) ?_
          refine lv_iload hx_ hb_ dX11_rings_43 (lv_at hl 3 rfl) ?_
          refine si_shr S dX11_rings_45 ?_
          refine si_const S dX11_rings_46 ?_
          refine si_and S dX11_rings_47 ?_
          refine si_const S dX11_rings_48 ?_
          rw [ibit (m := v) (k := k) (by omega) (by omega)]
          refine sb_ne (tgt := 55) S dX11_rings_49 (by decide) (by have := bI_r (c := tb v k); omega) (fun h49 => ?_) (fun h49 => ?_)
          · refine si_inc (lv' := [(2, .int (sI (c + 1))), (0, .ref m), (3, .int (sI v)), (4, .int (sI k))]) S dX11_rings_55 hl (k := 1) rfl (by decide) rfl (fun ls hl => ?_)
            refine lv_iload hx_ hb_ dX11_rings_58 (lv_at hl 3 rfl) ?_
            refine lv_istore (lv' := [(5, .int (sI k)), (2, .int (sI (c + 1))), (0, .ref m), (3, .int (sI v)), (4, .int (sI k))]) hx_ hb_ dX11_rings_60 hl (by decide) rfl (fun ls hl => ?_)
            have L62 : ∀ (fuel : Nat) (w : Int) (o : Int)  (H : Heap) (locs : List Loc) (ls : Array Slot), ((31 - pcI w).toNat) < fuel → (0 ≤ w ∧ w ≤ 2147483647) → (∃ j : Nat, o = itN b910 j k ∧ ∀ x, 0 ≤ x → (tb w x ↔ seP b910 k x ∨ ∃ r : Nat, r < j ∧ x = itN b910 r k)) → sV G b_ M6 N s_ H locs → lv_has ls 6 [(0, .ref m), (2, .int (sI (c + 1))), (3, .int (sI w)), (4, .int (sI k)), (5, .int (sI o))] → W p_ l_ e_ rmX11_rings s_ m_ args_ below_ meth_ c_ H locs 0 0 Q (F0 m_ 62 ls []) := by
              intro fuel
              induction fuel with
              | zero => intro w o H locs ls hmu; exact absurd hmu (Nat.not_lt_zero _)
              | succ fuel ih62 =>
                intro w o H locs ls hmu62 hwr hj  hV hl
                obtain ⟨j2, ho, hS⟩ := hj
                have hin := it_in hag hpm (q := k) ⟨by omega, by omega, by omega⟩ j2
                rw [← ho] at hin
                have hpc := pc_r w
                refine lv_iload_n hx_ hb_ dX11_rings_62 rfl (lv_at hl 2 rfl) ?_
                refine lv_iload hx_ hb_ dX11_rings_63 (lv_at hl 4 rfl) ?_
                refine si_shr S dX11_rings_65 ?_
                refine si_const S dX11_rings_66 ?_
                refine si_and S dX11_rings_67 ?_
                rw [ibit (m := w) (k := o) (by omega) (by omega)]
                refine sq_ne (tgt := 90) S dX11_rings_68 (by decide) (fun h68 => ?_) (fun h68 => ?_)
                · refine si_inc (lv' := [(4, .int (sI (k + 1))), (0, .ref m), (2, .int (sI (c + 1))), (3, .int (sI w)), (5, .int (sI o))]) S dX11_rings_90 hl (k := 3) rfl (by decide) rfl (fun ls hl => ?_)
                  refine lv_goto (tgt := 17) hx_ hb_ dX11_rings_93 (by decide) ?_
                  exact ih17 (c + 1) w (k + 1) _ _ _ (by omega) (by omega) (by omega) (fun x a => se_s1 (by omega) (by omega) j2 (tb w) hS (fun r => (it_in hag hpm ⟨by omega, by omega, by omega⟩ r).1) (by rw [← ho]; exact h68) x a) (by have e := isum_s (rgT b910) (show 0 ≤ k by omega); rw [e, hc]; unfold rgT; rw [pif_t ⟨by omega, fun q => h49 (bI_1.mpr ((hse k (by omega)).mpr q))⟩]) hV (lv_sub hl [1, 2, 3, 0] rfl)
                · refine lv_iload_n hx_ hb_ dX11_rings_71 rfl (lv_at hl 2 rfl) ?_
                  refine si_const S dX11_rings_72 ?_
                  refine lv_iload hx_ hb_ dX11_rings_73 (lv_at hl 4 rfl) ?_
                  refine si_shl S dX11_rings_75 ?_
                  refine si_or S dX11_rings_76 ?_
                  refine lv_istore_n (lv' := [(3, .int (sI (ior w (ishl 1 o)))), (0, .ref m), (2, .int (sI (c + 1))), (4, .int (sI k)), (5, .int (sI o))]) hx_ hb_ dX11_rings_77 rfl hl (by decide) rfl (fun ls hl => ?_)
                  refine lv_aload_n hx_ hb_ dX11_rings_78 rfl (lv_at hl 1 rfl) ?_
                  refine sc_get (ci := 9) (C := RX11) (T := TX11) (n := 22) S hK hV inX11_ hc17 rfl 15 (by decide) (S.2.2.2.2 _ (List.mem_of_getElem? (i := 3) rfl)) rfl rfl dX11_rings_79 ?_
                  refine lv_iload hx_ hb_ dX11_rings_82 (lv_at hl 4 rfl) ?_
                  refine sc_iald S hK hV hc14 (by omega) dX11_rings_84 ?_
                  refine lv_istore (lv' := [(5, .int (sI (b910 o))), (3, .int (sI (ior w (ishl 1 o)))), (0, .ref m), (2, .int (sI (c + 1))), (4, .int (sI k))]) hx_ hb_ dX11_rings_85 hl (by decide) rfl (fun ls hl => ?_)
                  refine lv_goto (tgt := 62) hx_ hb_ dX11_rings_87 (by decide) ?_
                  exact ih62 (ior w (ishl 1 o)) (b910 o) _ _ _ (by have e := pc_or (m := w) (k := o) (by omega) (by omega) h68; have e2 := pc_r (ior w (ishl 1 o)); omega) (ior_r31 (by omega) (ishl_r31 (by omega))) (⟨j2 + 1, by rw [ho]; rfl, fun x a => by rw [tb_or (by omega) (ishl_r31 (by omega)), tb_one (by omega) a, hS x a]; constructor; (rintro ((q | ⟨r, h1, h2⟩) | q); exact Or.inl q; exact Or.inr ⟨r, by omega, h2⟩; exact Or.inr ⟨j2, by omega, by rw [q, ho]⟩); (rintro (q | ⟨r, h1, h2⟩); exact Or.inl (Or.inl q); by_cases e : r = j2; exact Or.inr (by rw [h2, e, ho]); exact Or.inl (Or.inr ⟨r, by omega, h2⟩))⟩) hV (lv_sub hl [2, 3, 1, 4, 0] rfl)
            exact L62 _ v k _ _ _ (Nat.lt_succ_self _) (by omega) (⟨0, rfl, fun x a => by rw [hse x a]; exact ⟨Or.inl, fun q => q.elim id (fun ⟨r, h1, h2⟩ => by omega)⟩⟩) hV (lv_sub hl [2, 1, 3, 4, 0] rfl)
          · refine lv_goto (tgt := 90) hx_ hb_ dX11_rings_52 (by decide) ?_
            refine si_inc (lv' := [(4, .int (sI (k + 1))), (0, .ref m), (2, .int (sI c)), (3, .int (sI v))]) S dX11_rings_90 hl (k := 3) rfl (by decide) rfl (fun ls hl => ?_)
            refine lv_goto (tgt := 17) hx_ hb_ dX11_rings_93 (by decide) ?_
            exact ih17 c v (k + 1) _ _ _ (by omega) (by omega) (by omega) (fun x a => (hse x a).trans (se_s0 (by omega) (Or.inr ((hse k (by omega)).mp (bI_1.mp h49))) x)) (by have e := isum_s (rgT b910) (show 0 ≤ k by omega); rw [e, hc]; unfold rgT; rw [pif_f (fun q => q.2 ((hse k (by omega)).mp (bI_1.mp h49)))]; omega) hV (lv_sub hl [1, 2, 3, 0] rfl)
  exact L17 _ 0 0 0 _ _ _ (Nat.lt_succ_self _) (by omega) (by omega) (fun x a => ⟨fun q => absurd q (tb_0 x), fun ⟨q, h1, h2, h3⟩ => by omega⟩) (rfl) hV (lv_sub hl [4, 2, 1, 0] rfl)
