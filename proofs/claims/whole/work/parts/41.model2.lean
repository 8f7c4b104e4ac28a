def apB (a b c d e : Int) : Int := bn a + bn b + bn c + bn d + bn e
def apT (t : Int → Int) (n a b c d e : Int) : Int → Int := tpt e (tpt d (tpt c (tpt b (tpt a t n 4) (n + bn a) 4) (n + bn a + bn b) 4) (n + bn a + bn b + bn c) 4) (n + bn a + bn b + bn c + bn d) 4
/-- what a tape holds: bytes -/
def tpOk (t : Int → Int) (n : Int) : Prop := 0 ≤ n ∧ n ≤ 300 ∧ ∀ i, 0 ≤ i → i < n → 1 ≤ t i ∧ t i ≤ 255
/-- how many letters stand ahead, four at most -/
noncomputable def ltc (t : Int → Int) (n : Int) : Int := if idx (fun i => ¬ ltP t n i) 4 = -1 then 4 else idx (fun i => ¬ ltP t n i) 4
theorem ltc_r (t : Int → Int) (n : Int) : 0 ≤ ltc t n ∧ ltc t n ≤ 4 := by
  have := idx_r (fun i => ¬ ltP t n i) (n := 4) (by omega)
  unfold ltc
  split <;> omega
theorem ltc_4 {t : Int → Int} {n : Int} (h : ∀ k, 0 ≤ k → k < 4 → ltP t n k) : ltc t n = 4 := by
  unfold ltc
  rw [idx_none (fun k a b q => q (h k a b))]
  rfl
theorem ltc_e {t : Int → Int} {n i : Int} (hi : 0 ≤ i ∧ i < 4) (h : ∀ k, 0 ≤ k → k < i → ltP t n k) (h2 : ¬ ltP t n i) : ltc t n = i := by
  unfold ltc
  rw [idx_some (P := fun i => ¬ ltP t n i) hi h2 (fun k a b q => q (h k a b))]
  exact if_neg (by omega)
/-- the numbers of a stone are in their ranges -/
def nuP (k z w v : Int) : Prop := (0 ≤ k ∧ k ≤ 5) ∧ (1 ≤ z ∧ z ≤ 9) ∧ (1 ≤ w ∧ w ≤ 99) ∧ (0 ≤ v ∧ v ≤ 10000)
/-- the states that are kept -/
def chn (ch : Int) : Int := if ch = 15 then 15 else ch + 1
def fsn (ch : Int) (fs : Int → sF) (f : sF) : Int → sF := if ch = 15 then (fun i => if i = 14 then f else fs (i + 1)) else (fun i => if i = ch then f else fs i)
def cpF (f g : sF) : sF := fun k => if 0 ≤ k ∧ k < 574 then g k else f k
def svC (G : sG) (M : sM) (a : Nat) (ch : Int) (fs : Int → sF) : Prop := ∃ sv : Int → Int, M a = some (sArr G 8610 sv) ∧ ∀ i k, 0 ≤ i → i < ch → 0 ≤ k → k < 574 → sv (574 * i + k) = fs i k
theorem svC.fr {G : sG} {M M1 : sM} {a : Nat} {ch : Int} {fs : Int → sF} (h : svC G M a ch fs) (hf : ∀ x : Nat, a ≤ x → x < a + 1 → M1 x = M x) : svC G M1 a ch fs := by
  obtain ⟨sv, h1, h2⟩ := h
  exact ⟨sv, (hf a (by omega) (by omega)).trans h1, h2⟩

abbrev rmX11_append : Room := { frames := 2, cells := 0, slots := 0, locals := 63 }
set_option maxHeartbeats 4000000 in
set_option maxRecDepth 100000 in
theorem kX11_append (l_ : Launch) (G : sG) (b_ : Nat) (M : sM) (N : Nat) (m : Nat) (th ch tn ea sn nm wn : Int) (t : Int → Int) (a b c d e : Int) (hm0 : M m = some (mO m th ch tn ea sn nm wn)) (hm3 : M (m + 3) = some (sArr G 300 t)) (hn : 0 ≤ tn ∧ tn ≤ 300) : cI l_ yX11_append wsX11_append rmX11_append G b_ M N [.ref m, .int (sI a), .int (sI b), .int (sI c), .int (sI d), .int (sI e)] (fun z_ M1 N1 => N1 = N ∧ (∀ x : Nat, ¬ (x = m) → ¬ (x = m + 3) → M1 x = M x) ∧ (((300 < tn + apB a b c d e) ∧ z_ = 0 ∧ M1 m = some (mO m 1 ch tn ea sn nm wn) ∧ M1 (m + 3) = some (sArr G 300 t)) ∨ ((tn + apB a b c d e ≤ 300) ∧ z_ = tn + apB a b c d e ∧ M1 m = some (mO m 0 ch (tn + apB a b c d e) ea sn nm wn) ∧ M1 (m + 3) = some (sArr G 300 (apT t tn a b c d e))))) := by
  refine sE.ofI (cc := cX11_append) (nL := 7) (ret := (some .int)) (by decide) rfl (Nat.le_of_ble_eq_true rfl) ?_
  intro p_ e_ s_ m_ args_ below_ meth_ c_ ls Q hQ E hl
  have E : sE p_ l_ e_ rmX11_append s_ m_ args_ below_ meth_ c_ cX11_append 7 wsX11_append RX11 "append" (some .int) G b_ M N := E
  have S := E.1
  have hx_ := S.1
  have hb_ := S.2.1
  have hK := E.2.2.2.2.1
  have hV := E.2.2.2.2.2.2
  have hl : lv_has ls 7 [(0, .ref m), (1, .int (sI a)), (2, .int (sI b)), (3, .int (sI c)), (4, .int (sI d)), (5, .int (sI e))] := hl
  have inX11_ : ∀ w ∈ wsX110, w ∈ wsX11_append := fun _ h => List.mem_cons_of_mem _ (List.mem_append_right _ h)
  have b1 := bn_r a
  have b2 := bn_r b
  have b3 := bn_r c
  have b4 := bn_r d
  have b5 := bn_r e
  refine lv_aload_n hx_ hb_ dX11_append_0 rfl (lv_at hl 0 rfl) ?_
  refine si_const S dX11_append_1 ?_
  refine sc_put (ci := 9) (C := RX11) (T := TX11) (n := 22) S hK hV inX11_ tyX11_ok nmX11 hm0 rfl 0 (by decide) (S.2.2.2.2 _ (List.mem_of_getElem? (i := 1) rfl)) rfl rfl rfl rfl (Nat.le_of_ble_eq_true rfl) dX11_append_2 (fs1 := [.int (sI 0), .ref (m + 1), .ref (m + 2), .int (sI ch), .ref (m + 3), .int (sI tn), .int (sI ea), .ref (m + 4), .ref (m + 5), .ref (m + 6), .ref (m + 7), .ref (m + 8), .ref (m + 9), .int (sI sn), .ref (m + 10), .ref (m + 11), .ref (m + 12), .ref (m + 13), .int (sI nm), .ref (m + 14), .ref (m + 15), .int (sI wn)]) rfl (fun M1 H locs hM1 hV => ?_)
  have hc2 : M1 m = some (mO m 0 ch tn ea sn nm wn) := (congrFun hM1 m).trans (va_up_self M m _)
  refine lv_iload_n hx_ hb_ dX11_append_5 rfl (lv_at hl 1 rfl) ?_
  refine sk_SP E hV (As := [.int (sI a)]) (rest := []) (kX11_bytesIn l_ G b_ M1 N a) (va_cwS 1 S.2.2.2.2 gX11_append_X11_bytesIn rfl rfl rfl (by decide +kernel) ⟨Nat.le_of_ble_eq_true rfl, Nat.le_of_ble_eq_true rfl⟩) rfl rfl hl.1 (Nat.le_of_ble_eq_true rfl) dX11_append_6 (c1 := 0) (s1 := 0) ⟨⟨rfl, rfl⟩, by decide, by decide⟩ (fun H locs hV => ?_)
  refine lv_iload_n hx_ hb_ dX11_append_9 rfl (lv_at hl 2 rfl) ?_
  refine sk_SP E hV (As := [.int (sI b)]) (rest := [.int (sI (bn a))]) (kX11_bytesIn l_ G b_ M1 N b) (va_cwS 1 S.2.2.2.2 gX11_append_X11_bytesIn rfl rfl rfl (by decide +kernel) ⟨Nat.le_of_ble_eq_true rfl, Nat.le_of_ble_eq_true rfl⟩) rfl rfl hl.1 (Nat.le_of_ble_eq_true rfl) dX11_append_10 (c1 := 0) (s1 := 0) ⟨⟨rfl, rfl⟩, by decide, by decide⟩ (fun H locs hV => ?_)
  refine si_add S dX11_append_13 ?_
  refine lv_iload_n hx_ hb_ dX11_append_14 rfl (lv_at hl 3 rfl) ?_
  refine sk_SP E hV (As := [.int (sI c)]) (rest := [.int (sI ((bn a) + (bn b)))]) (kX11_bytesIn l_ G b_ M1 N c) (va_cwS 1 S.2.2.2.2 gX11_append_X11_bytesIn rfl rfl rfl (by decide +kernel) ⟨Nat.le_of_ble_eq_true rfl, Nat.le_of_ble_eq_true rfl⟩) rfl rfl hl.1 (Nat.le_of_ble_eq_true rfl) dX11_append_15 (c1 := 0) (s1 := 0) ⟨⟨rfl, rfl⟩, by decide, by decide⟩ (fun H locs hV => ?_)
  refine si_add S dX11_append_18 ?_
  refine lv_iload hx_ hb_ dX11_append_19 (lv_at hl 4 rfl) ?_
  refine sk_SP E hV (As := [.int (sI d)]) (rest := [.int (sI (((bn a) + (bn b)) + (bn c)))]) (kX11_bytesIn l_ G b_ M1 N d) (va_cwS 1 S.2.2.2.2 gX11_append_X11_bytesIn rfl rfl rfl (by decide +kernel) ⟨Nat.le_of_ble_eq_true rfl, Nat.le_of_ble_eq_true rfl⟩) rfl rfl hl.1 (Nat.le_of_ble_eq_true rfl) dX11_append_21 (c1 := 0) (s1 := 0) ⟨⟨rfl, rfl⟩, by decide, by decide⟩ (fun H locs hV => ?_)
  refine si_add S dX11_append_24 ?_
  refine lv_iload hx_ hb_ dX11_append_25 (lv_at hl 5 rfl) ?_
  refine sk_SP E hV (As := [.int (sI e)]) (rest := [.int (sI ((((bn a) + (bn b)) + (bn c)) + (bn d)))]) (kX11_bytesIn l_ G b_ M1 N e) (va_cwS 1 S.2.2.2.2 gX11_append_X11_bytesIn rfl rfl rfl (by decide +kernel) ⟨Nat.le_of_ble_eq_true rfl, Nat.le_of_ble_eq_true rfl⟩) rfl rfl hl.1 (Nat.le_of_ble_eq_true rfl) dX11_append_27 (c1 := 0) (s1 := 0) ⟨⟨rfl, rfl⟩, by decide, by decide⟩ (fun H locs hV => ?_)
  refine si_add S dX11_append_30 ?_
  refine lv_istore (lv' := [(6, .int (sI (((((bn a) + (bn b)) + (bn c)) + (bn d)) + (bn e)))), (0, .ref m), (1, .int (sI a)), (2, .int (sI b)), (3, .int (sI c)), (4, .int (sI d)), (5, .int (sI e))]) hx_ hb_ dX11_append_31 hl (by decide) rfl (fun ls hl => ?_)
  refine lv_aload_n hx_ hb_ dX11_append_33 rfl (lv_at hl 1 rfl) ?_
  refine lv_aload_n hx_ hb_ dX11_append_34 rfl (lv_at hl 1 rfl) ?_
  refine sc_get (ci := 9) (C := RX11) (T := TX11) (n := 22) S hK hV inX11_ hc2 rfl 5 (by decide) (S.2.2.2.2 _ (List.mem_of_getElem? (i := 2) rfl)) rfl rfl dX11_append_35 ?_
  refine lv_iload hx_ hb_ dX11_append_38 (lv_at hl 0 rfl) ?_
  refine si_add S dX11_append_40 ?_
  refine si_sipush S dX11_append_41 (by decide) ?_
  refine sb_gt (tgt := 51) S dX11_append_44 (by decide) (by omega) (fun c3 => ?_) (fun c3 => ?_)
  · refine si_const S dX11_append_51 ?_
    refine si_const S dX11_append_52 ?_
    refine sk_Vi E hV (As := [.int (sI 0), .int (sI 1)]) (rest := []) (kX11_fails0 l_ G b_ M1 N m ch tn ea sn nm wn 1 hc2 (by omega)) (cwV 2 S.2.2.2.2 gX11_append_X11_fails rfl rfl rfl (by decide +kernel) ⟨Nat.le_of_ble_eq_true rfl, Nat.le_of_ble_eq_true rfl⟩) (ci := 9) hc2 rfl rfl rfl hl.1 (Nat.le_of_ble_eq_true rfl) dX11_append_53 (c1 := 0) (s1 := 0) ⟨⟨rfl, rfl⟩, by decide, by decide⟩ (fun z7 M4 N5 H locs hp6 hV => ?_)
    obtain ⟨ez8, hN9, hc10, hf11⟩ := hp6
    rw [hN9] at hV
    rw [ez8]
    refine sz_eq (tgt := 61) S dX11_append_56 (by decide) (by omega) (fun c12 => absurd c12 (by omega)) (fun _ => ?_)
    refine si_const S dX11_append_59 ?_
    have hc13 : M4 (m + 3) = some (sArr G 300 t) := ((hf11 (m + 3) (by omega)).trans ((congrFun hM1 (m + 3)).trans (va_up_ne M _ (by omega)))).trans hm3
    exact sr_i E hQ dX11_append_60 ⟨Nat.le_of_ble_eq_true rfl, Nat.le_of_ble_eq_true rfl⟩ hV (⟨rfl, fun x q0 q1 => (hf11 x (by omega)).trans ((congrFun hM1 x).trans (va_up_ne M _ (by omega))), Or.inl ⟨(by unfold apB; omega), rfl, hc10, hc13⟩⟩)
  · refine si_const S dX11_append_47 ?_
    refine lv_goto (tgt := 52) hx_ hb_ dX11_append_48 (by decide) ?_
    refine si_const S dX11_append_52 ?_
    refine sk_Vi E hV (As := [.int (sI 1), .int (sI 1)]) (rest := []) (kX11_fails1 l_ G b_ M1 N m ch tn ea sn nm wn 1 hc2 (by omega)) (cwV 2 S.2.2.2.2 gX11_append_X11_fails rfl rfl rfl (by decide +kernel) ⟨Nat.le_of_ble_eq_true rfl, Nat.le_of_ble_eq_true rfl⟩) (ci := 9) hc2 rfl rfl rfl hl.1 (Nat.le_of_ble_eq_true rfl) dX11_append_53 (c1 := 0) (s1 := 0) ⟨⟨rfl, rfl⟩, by decide, by decide⟩ (fun z17 M14 N15 H locs hp16 hV => ?_)
    obtain ⟨ez18, hN19, hc20, hf21⟩ := hp16
    rw [hN19] at hV
    rw [ez18]
    refine sz_eq (tgt := 61) S dX11_append_56 (by decide) (by omega) (fun _ => ?_) (fun c22 => absurd c22 (by omega))
    refine lv_aload_n hx_ hb_ dX11_append_61 rfl (lv_at hl 1 rfl) ?_
    refine lv_iload_n hx_ hb_ dX11_append_62 rfl (lv_at hl 2 rfl) ?_
    have hc23 : M14 (m + 3) = some (sArr G 300 t) := ((hf21 (m + 3) (by omega)).trans ((congrFun hM1 (m + 3)).trans (va_up_ne M _ (by omega)))).trans hm3
    refine sk_Vv E hV (As := [.int (sI a)]) (rest := []) (kX11_takesBytes l_ G b_ M14 N m 0 ch tn ea sn nm wn t a hc20 hc23 (by omega)) (cwV 1 S.2.2.2.2 gX11_append_X11_takesBytes rfl rfl rfl (by decide +kernel) ⟨Nat.le_of_ble_eq_true rfl, Nat.le_of_ble_eq_true rfl⟩) (ci := 9) hc20 rfl rfl rfl hl.1 (Nat.le_of_ble_eq_true rfl) dX11_append_63 (c1 := 0) (s1 := 0) ⟨⟨rfl, rfl⟩, by decide, by decide⟩ (fun M24 N25 H locs hp26 hV => ?_)
    obtain ⟨hN28, hc29, hc30, hf31⟩ := hp26
    rw [hN28] at hV
    refine lv_aload_n hx_ hb_ dX11_append_66 rfl (lv_at hl 1 rfl) ?_
    refine lv_iload_n hx_ hb_ dX11_append_67 rfl (lv_at hl 3 rfl) ?_
    refine sk_Vv E hV (As := [.int (sI b)]) (rest := []) (kX11_takesBytes l_ G b_ M24 N m 0 ch (tn + bn a) ea sn nm wn (tpt a t tn 4) b hc29 hc30 (by omega)) (cwV 1 S.2.2.2.2 gX11_append_X11_takesBytes rfl rfl rfl (by decide +kernel) ⟨Nat.le_of_ble_eq_true rfl, Nat.le_of_ble_eq_true rfl⟩) (ci := 9) hc29 rfl rfl rfl hl.1 (Nat.le_of_ble_eq_true rfl) dX11_append_68 (c1 := 0) (s1 := 0) ⟨⟨rfl, rfl⟩, by decide, by decide⟩ (fun M32 N33 H locs hp34 hV => ?_)
    obtain ⟨hN36, hc37, hc38, hf39⟩ := hp34
    rw [hN36] at hV
    refine lv_aload_n hx_ hb_ dX11_append_71 rfl (lv_at hl 1 rfl) ?_
    refine lv_iload_n hx_ hb_ dX11_append_72 rfl (lv_at hl 4 rfl) ?_
    refine sk_Vv E hV (As := [.int (sI c)]) (rest := []) (kX11_takesBytes l_ G b_ M32 N m 0 ch ((tn + bn a) + bn b) ea sn nm wn (tpt b (tpt a t tn 4) (tn + bn a) 4) c hc37 hc38 (by omega)) (cwV 1 S.2.2.2.2 gX11_append_X11_takesBytes rfl rfl rfl (by decide +kernel) ⟨Nat.le_of_ble_eq_true rfl, Nat.le_of_ble_eq_true rfl⟩) (ci := 9) hc37 rfl rfl rfl hl.1 (Nat.le_of_ble_eq_true rfl) dX11_append_73 (c1 := 0) (s1 := 0) ⟨⟨rfl, rfl⟩, by decide, by decide⟩ (fun M40 N41 H locs hp42 hV => ?_)
    obtain ⟨hN44, hc45, hc46, hf47⟩ := hp42
    rw [hN44] at hV
    refine lv_aload_n hx_ hb_ dX11_append_76 rfl (lv_at hl 1 rfl) ?_
    refine lv_iload hx_ hb_ dX11_append_77 (lv_at hl 5 rfl) ?_
    refine sk_Vv E hV (As := [.int (sI d)]) (rest := []) (kX11_takesBytes l_ G b_ M40 N m 0 ch (((tn + bn a) + bn b) + bn c) ea sn nm wn (tpt c (tpt b (tpt a t tn 4) (tn + bn a) 4) ((tn + bn a) + bn b) 4) d hc45 hc46 (by omega)) (cwV 1 S.2.2.2.2 gX11_append_X11_takesBytes rfl rfl rfl (by decide +kernel) ⟨Nat.le_of_ble_eq_true rfl, Nat.le_of_ble_eq_true rfl⟩) (ci := 9) hc45 rfl rfl rfl hl.1 (Nat.le_of_ble_eq_true rfl) dX11_append_79 (c1 := 0) (s1 := 0) ⟨⟨rfl, rfl⟩, by decide, by decide⟩ (fun M48 N49 H locs hp50 hV => ?_)
    obtain ⟨hN52, hc53, hc54, hf55⟩ := hp50
    rw [hN52] at hV
    refine lv_aload_n hx_ hb_ dX11_append_82 rfl (lv_at hl 1 rfl) ?_
    refine lv_iload hx_ hb_ dX11_append_83 (lv_at hl 6 rfl) ?_
    refine sk_Vv E hV (As := [.int (sI e)]) (rest := []) (kX11_takesBytes l_ G b_ M48 N m 0 ch ((((tn + bn a) + bn b) + bn c) + bn d) ea sn nm wn (tpt d (tpt c (tpt b (tpt a t tn 4) (tn + bn a) 4) ((tn + bn a) + bn b) 4) (((tn + bn a) + bn b) + bn c) 4) e hc53 hc54 (by omega)) (cwV 1 S.2.2.2.2 gX11_append_X11_takesBytes rfl rfl rfl (by decide +kernel) ⟨Nat.le_of_ble_eq_true rfl, Nat.le_of_ble_eq_true rfl⟩) (ci := 9) hc53 rfl rfl rfl hl.1 (Nat.le_of_ble_eq_true rfl) dX11_append_85 (c1 := 0) (s1 := 0) ⟨⟨rfl, rfl⟩, by decide, by decide⟩ (fun M56 N57 H locs hp58 hV => ?_)
    obtain ⟨hN60, hc61, hc62, hf63⟩ := hp58
    rw [hN60] at hV
    refine lv_aload_n hx_ hb_ dX11_append_88 rfl (lv_at hl 1 rfl) ?_
    refine sc_get (ci := 9) (C := RX11) (T := TX11) (n := 22) S hK hV inX11_ hc61 rfl 5 (by decide) (S.2.2.2.2 _ (List.mem_of_getElem? (i := 2) rfl)) rfl rfl dX11_append_89 ?_
    exact sr_i E hQ dX11_append_92 ⟨Nat.le_of_ble_eq_true rfl, Nat.le_of_ble_eq_true rfl⟩ hV (⟨rfl, fun x q0 q1 => ((((((hf63 x (by omega) (by omega)).trans (hf55 x (by omega) (by omega))).trans (hf47 x (by omega) (by omega))).trans (hf39 x (by omega) (by omega))).trans (hf31 x (by omega) (by omega))).trans (hf21 x (by omega))).trans ((congrFun hM1 x).trans (va_up_ne M _ (by omega))), Or.inr (⟨(by unfold apB; omega), by unfold apB; omega, by rw [show tn + apB a b c d e = tn + bn a + bn b + bn c + bn d + bn e by unfold apB; omega]; exact hc61, hc62⟩)⟩)

abbrev rmX11_clearTape : Room := { frames := 1, cells := 0, slots := 0, locals := 40 }
set_option maxHeartbeats 4000000 in
set_option maxRecDepth 100000 in
theorem kX11_clearTape (l_ : Launch) (G : sG) (b_ : Nat) (M : sM) (N : Nat) (m : Nat) (th ch tn ea sn nm wn : Int) (hm0 : M m = some (mO m th ch tn ea sn nm wn)) : cI l_ yX11_clearTape wsX11_clearTape rmX11_clearTape G b_ M N [.ref m] (fun z_ M1 N1 => z_ = tn ∧ N1 = N ∧ M1 m = some (mO m 0 ch 0 ea sn nm wn) ∧ (∀ x : Nat, ¬ (x = m) → M1 x = M x)) := by
  refine sE.ofI (cc := cX11_clearTape) (nL := 2) (ret := (some .int)) (by decide) rfl (Nat.le_of_ble_eq_true rfl) ?_
  intro p_ e_ s_ m_ args_ below_ meth_ c_ ls Q hQ E hl
  have E : sE p_ l_ e_ rmX11_clearTape s_ m_ args_ below_ meth_ c_ cX11_clearTape 2 wsX11_clearTape RX11 "clearTape" (some .int) G b_ M N := E
  have S := E.1
  have hx_ := S.1
  have hb_ := S.2.1
  have hK := E.2.2.2.2.1
  have hV := E.2.2.2.2.2.2
  have hl : lv_has ls 2 [(0, .ref m)] := hl
  have inX11_ : ∀ w ∈ wsX110, w ∈ wsX11_clearTape := fun _ h => List.mem_cons_of_mem _ (List.mem_append_right _ h)
  refine lv_aload_n hx_ hb_ dX11_clearTape_0 rfl (lv_at hl 0 rfl) ?_
  refine si_const S dX11_clearTape_1 ?_
  refine sc_put (ci := 9) (C := RX11) (T := TX11) (n := 22) S hK hV inX11_ tyX11_ok nmX11 hm0 rfl 0 (by decide) (S.2.2.2.2 _ (List.mem_of_getElem? (i := 1) rfl)) rfl rfl rfl rfl (Nat.le_of_ble_eq_true rfl) dX11_clearTape_2 (fs1 := [.int (sI 0), .ref (m + 1), .ref (m + 2), .int (sI ch), .ref (m + 3), .int (sI tn), .int (sI ea), .ref (m + 4), .ref (m + 5), .ref (m + 6), .ref (m + 7), .ref (m + 8), .ref (m + 9), .int (sI sn), .ref (m + 10), .ref (m + 11), .ref (m + 12), .ref (m + 13), .int (sI nm), .ref (m + 14), .ref (m + 15), .int (sI wn)]) rfl (fun M1 H locs hM1 hV => ?_)
  have hc2 : M1 m = some (mO m 0 ch tn ea sn nm wn) := (congrFun hM1 m).trans (va_up_self M m _)
  refine lv_aload_n hx_ hb_ dX11_clearTape_5 rfl (lv_at hl 0 rfl) ?_
  refine sc_get (ci := 9) (C := RX11) (T := TX11) (n := 22) S hK hV inX11_ hc2 rfl 5 (by decide) (S.2.2.2.2 _ (List.mem_of_getElem? (i := 2) rfl)) rfl rfl dX11_clearTape_6 ?_
  refine lv_istore_n (lv' := [(1, .int (sI tn)), (0, .ref m)]) hx_ hb_ dX11_clearTape_9 rfl hl (by decide) rfl (fun ls hl => ?_)
  refine lv_aload_n hx_ hb_ dX11_clearTape_10 rfl (lv_at hl 1 rfl) ?_
  refine si_const S dX11_clearTape_11 ?_
  refine sc_put (ci := 9) (C := RX11) (T := TX11) (n := 22) S hK hV inX11_ tyX11_ok nmX11 hc2 rfl 5 (by decide) (S.2.2.2.2 _ (List.mem_of_getElem? (i := 2) rfl)) rfl rfl rfl rfl (Nat.le_of_ble_eq_true rfl) dX11_clearTape_12 (fs1 := [.int (sI 0), .ref (m + 1), .ref (m + 2), .int (sI ch), .ref (m + 3), .int (sI 0), .int (sI ea), .ref (m + 4), .ref (m + 5), .ref (m + 6), .ref (m + 7), .ref (m + 8), .ref (m + 9), .int (sI sn), .ref (m + 10), .ref (m + 11), .ref (m + 12), .ref (m + 13), .int (sI nm), .ref (m + 14), .ref (m + 15), .int (sI wn)]) rfl (fun M3 H locs hM3 hV => ?_)
  have hc4 : M3 m = some (mO m 0 ch 0 ea sn nm wn) := (congrFun hM3 m).trans (va_up_self M1 m _)
  refine lv_iload_n hx_ hb_ dX11_clearTape_15 rfl (lv_at hl 0 rfl) ?_
  exact sr_i E hQ dX11_clearTape_16 ⟨Nat.le_of_ble_eq_true rfl, Nat.le_of_ble_eq_true rfl⟩ hV (⟨rfl, rfl, hc4, fun x q0 => ((congrFun hM3 x).trans (va_up_ne M1 _ (by omega))).trans ((congrFun hM1 x).trans (va_up_ne M _ (by omega)))⟩)

abbrev rmX11_errorPosition : Room := { frames := 1, cells := 0, slots := 0, locals := 40 }
set_option maxHeartbeats 4000000 in
set_option maxRecDepth 100000 in
theorem kX11_errorPosition (l_ : Launch) (G : sG) (b_ : Nat) (M : sM) (N : Nat) (m : Nat) (th ch tn ea sn nm wn : Int) (hm0 : M m = some (mO m th ch tn ea sn nm wn)) : cI l_ yX11_errorPosition wsX11_errorPosition rmX11_errorPosition G b_ M N [.ref m] (fun z_ M1 N1 => z_ = ea ∧ N1 = N ∧ M1 m = some (mO m 0 ch tn ea sn nm wn) ∧ (∀ x : Nat, ¬ (x = m) → M1 x = M x)) := by
  refine sE.ofI (cc := cX11_errorPosition) (nL := 1) (ret := (some .int)) (by decide) rfl (Nat.le_of_ble_eq_true rfl) ?_
  intro p_ e_ s_ m_ args_ below_ meth_ c_ ls Q hQ E hl
  have E : sE p_ l_ e_ rmX11_errorPosition s_ m_ args_ below_ meth_ c_ cX11_errorPosition 1 wsX11_errorPosition RX11 "errorPosition" (some .int) G b_ M N := E
  have S := E.1
  have hx_ := S.1
  have hb_ := S.2.1
  have hK := E.2.2.2.2.1
  have hV := E.2.2.2.2.2.2
  have hl : lv_has ls 1 [(0, .ref m)] := hl
  have inX11_ : ∀ w ∈ wsX110, w ∈ wsX11_errorPosition := fun _ h => List.mem_cons_of_mem _ (List.mem_append_right _ h)
  refine lv_aload_n hx_ hb_ dX11_errorPosition_0 rfl (lv_at hl 0 rfl) ?_
  refine si_const S dX11_errorPosition_1 ?_
  refine sc_put (ci := 9) (C := RX11) (T := TX11) (n := 22) S hK hV inX11_ tyX11_ok nmX11 hm0 rfl 0 (by decide) (S.2.2.2.2 _ (List.mem_of_getElem? (i := 1) rfl)) rfl rfl rfl rfl (Nat.le_of_ble_eq_true rfl) dX11_errorPosition_2 (fs1 := [.int (sI 0), .ref (m + 1), .ref (m + 2), .int (sI ch), .ref (m + 3), .int (sI tn), .int (sI ea), .ref (m + 4), .ref (m + 5), .ref (m + 6), .ref (m + 7), .ref (m + 8), .ref (m + 9), .int (sI sn), .ref (m + 10), .ref (m + 11), .ref (m + 12), .ref (m + 13), .int (sI nm), .ref (m + 14), .ref (m + 15), .int (sI wn)]) rfl (fun M1 H locs hM1 hV => ?_)
  have hc2 : M1 m = some (mO m 0 ch tn ea sn nm wn) := (congrFun hM1 m).trans (va_up_self M m _)
  refine lv_aload_n hx_ hb_ dX11_errorPosition_5 rfl (lv_at hl 0 rfl) ?_
  refine sc_get (ci := 9) (C := RX11) (T := TX11) (n := 22) S hK hV inX11_ hc2 rfl 6 (by decide) (S.2.2.2.2 _ (List.mem_of_getElem? (i := 2) rfl)) rfl rfl dX11_errorPosition_6 ?_
  exact sr_i E hQ dX11_errorPosition_9 ⟨Nat.le_of_ble_eq_true rfl, Nat.le_of_ble_eq_true rfl⟩ hV (⟨rfl, rfl, hc2, fun x q0 => (congrFun hM1 x).trans (va_up_ne M _ (by omega))⟩)

abbrev rmX11_isLetter : Room := { frames := 1, cells := 0, slots := 0, locals := 40 }
set_option maxHeartbeats 4000000 in
set_option maxRecDepth 100000 in
theorem kX11_isLetter (l_ : Launch) (G : sG) (b_ : Nat) (M : sM) (N : Nat) (m : Nat) (th ch tn ea sn nm wn : Int) (t : Int → Int) (i : Int) (hm0 : M m = some (mO m th ch tn ea sn nm wn)) (hm3 : M (m + 3) = some (sArr G 300 t)) (hn : 0 ≤ tn ∧ tn ≤ 300) (hi : 0 ≤ i ∧ i ≤ 2000000000) (ht : tpOk t tn) : cP l_ yX11_isLetter wsX11_isLetter rmX11_isLetter G b_ M N [.ref m, .int (sI i)] (bI (ltP t tn i)) := by
  refine sE.ofI (cc := cX11_isLetter) (nL := 2) (ret := (some .boolean)) (by decide) rfl (Nat.le_of_ble_eq_true rfl) ?_
  intro p_ e_ s_ m_ args_ below_ meth_ c_ ls Q hQ E hl
  have E : sE p_ l_ e_ rmX11_isLetter s_ m_ args_ below_ meth_ c_ cX11_isLetter 2 wsX11_isLetter RX11 "isLetter" (some .boolean) G b_ M N := E
  have S := E.1
  have hx_ := S.1
  have hb_ := S.2.1
  have hK := E.2.2.2.2.1
  have hV := E.2.2.2.2.2.2
  have hl : lv_has ls 2 [(0, .ref m), (1, .int (sI i))] := hl
  have inX11_ : ∀ w ∈ wsX110, w ∈ wsX11_isLetter := fun _ h => List.mem_cons_of_mem _ (List.mem_append_right _ h)
  refine lv_iload_n hx_ hb_ dX11_isLetter_0 rfl (lv_at hl 1 rfl) ?_
  refine lv_aload_n hx_ hb_ dX11_isLetter_1 rfl (lv_at hl 0 rfl) ?_
  refine sc_get (ci := 9) (C := RX11) (T := TX11) (n := 22) S hK hV inX11_ hm0 rfl 5 (by decide) (S.2.2.2.2 _ (List.mem_of_getElem? (i := 1) rfl)) rfl rfl dX11_isLetter_2 ?_
  refine sb_ge (tgt := 34) S dX11_isLetter_5 (by decide) (by omega) (fun c1 => ?_) (fun c1 => ?_)
  · refine si_const S dX11_isLetter_34 ?_
    exact sr_z E hQ (Or.inl rfl) dX11_isLetter_35 ⟨Nat.le_of_ble_eq_true rfl, Nat.le_of_ble_eq_true rfl⟩ hV (⟨(bI_f (by unfold ltP; omega)).symm, rfl, rfl⟩)
  · have hb9 := ht.2.2 i (by omega) (by omega)
    refine lv_aload_n hx_ hb_ dX11_isLetter_8 rfl (lv_at hl 0 rfl) ?_
    refine sc_get (ci := 9) (C := RX11) (T := TX11) (n := 22) S hK hV inX11_ hm0 rfl 4 (by decide) (S.2.2.2.2 _ (List.mem_of_getElem? (i := 2) rfl)) rfl rfl dX11_isLetter_9 ?_
    refine lv_iload_n hx_ hb_ dX11_isLetter_12 rfl (lv_at hl 1 rfl) ?_
    refine sc_iald S hK hV hm3 (by omega) dX11_isLetter_13 ?_
    refine si_bipush S dX11_isLetter_14 (by decide) ?_
    refine sb_lt (tgt := 34) S dX11_isLetter_16 (by decide) (by omega) (fun c2 => ?_) (fun c2 => ?_)
    · refine si_const S dX11_isLetter_34 ?_
      exact sr_z E hQ (Or.inl rfl) dX11_isLetter_35 ⟨Nat.le_of_ble_eq_true rfl, Nat.le_of_ble_eq_true rfl⟩ hV (⟨(bI_f (by unfold ltP; omega)).symm, rfl, rfl⟩)
    · refine lv_aload_n hx_ hb_ dX11_isLetter_19 rfl (lv_at hl 0 rfl) ?_
      refine sc_get (ci := 9) (C := RX11) (T := TX11) (n := 22) S hK hV inX11_ hm0 rfl 4 (by decide) (S.2.2.2.2 _ (List.mem_of_getElem? (i := 2) rfl)) rfl rfl dX11_isLetter_20 ?_
      refine lv_iload_n hx_ hb_ dX11_isLetter_23 rfl (lv_at hl 1 rfl) ?_
      refine sc_iald S hK hV hm3 (by omega) dX11_isLetter_24 ?_
      refine si_bipush S dX11_isLetter_25 (by decide) ?_
      refine sb_gt (tgt := 34) S dX11_isLetter_27 (by decide) (by omega) (fun c3 => ?_) (fun c3 => ?_)
      · refine si_const S dX11_isLetter_34 ?_
        exact sr_z E hQ (Or.inl rfl) dX11_isLetter_35 ⟨Nat.le_of_ble_eq_true rfl, Nat.le_of_ble_eq_true rfl⟩ hV (⟨(bI_f (by unfold ltP; omega)).symm, rfl, rfl⟩)
      · refine si_const S dX11_isLetter_30 ?_
        refine lv_goto (tgt := 35) hx_ hb_ dX11_isLetter_31 (by decide) ?_
        exact sr_z E hQ (Or.inr rfl) dX11_isLetter_35 ⟨Nat.le_of_ble_eq_true rfl, Nat.le_of_ble_eq_true rfl⟩ hV (⟨(bI_t (by unfold ltP; omega)).symm, rfl, rfl⟩)

abbrev rmX11_isDigit : Room := { frames := 1, cells := 0, slots := 0, locals := 40 }
set_option maxHeartbeats 4000000 in
set_option maxRecDepth 100000 in
theorem kX11_isDigit (l_ : Launch) (G : sG) (b_ : Nat) (M : sM) (N : Nat) (m : Nat) (th ch tn ea sn nm wn : Int) (t : Int → Int) (i : Int) (hm0 : M m = some (mO m th ch tn ea sn nm wn)) (hm3 : M (m + 3) = some (sArr G 300 t)) (hn : 0 ≤ tn ∧ tn ≤ 300) (hi : 0 ≤ i ∧ i ≤ 2000000000) (ht : tpOk t tn) : cP l_ yX11_isDigit wsX11_isDigit rmX11_isDigit G b_ M N [.ref m, .int (sI i)] (bI (dgP t tn i)) := by
  refine sE.ofI (cc := cX11_isDigit) (nL := 2) (ret := (some .boolean)) (by decide) rfl (Nat.le_of_ble_eq_true rfl) ?_
  intro p_ e_ s_ m_ args_ below_ meth_ c_ ls Q hQ E hl
  have E : sE p_ l_ e_ rmX11_isDigit s_ m_ args_ below_ meth_ c_ cX11_isDigit 2 wsX11_isDigit RX11 "isDigit" (some .boolean) G b_ M N := E
  have S := E.1
  have hx_ := S.1
  have hb_ := S.2.1
  have hK := E.2.2.2.2.1
  have hV := E.2.2.2.2.2.2
  have hl : lv_has ls 2 [(0, .ref m), (1, .int (sI i))] := hl
  have inX11_ : ∀ w ∈ wsX110, w ∈ wsX11_isDigit := fun _ h => List.mem_cons_of_mem _ (List.mem_append_right _ h)
  refine lv_iload_n hx_ hb_ dX11_isDigit_0 rfl (lv_at hl 1 rfl) ?_
  refine lv_aload_n hx_ hb_ dX11_isDigit_1 rfl (lv_at hl 0 rfl) ?_
  refine sc_get (ci := 9) (C := RX11) (T := TX11) (n := 22) S hK hV inX11_ hm0 rfl 5 (by decide) (S.2.2.2.2 _ (List.mem_of_getElem? (i := 1) rfl)) rfl rfl dX11_isDigit_2 ?_
  refine sb_ge (tgt := 34) S dX11_isDigit_5 (by decide) (by omega) (fun c1 => ?_) (fun c1 => ?_)
  · refine si_const S dX11_isDigit_34 ?_
    exact sr_z E hQ (Or.inl rfl) dX11_isDigit_35 ⟨Nat.le_of_ble_eq_true rfl, Nat.le_of_ble_eq_true rfl⟩ hV (⟨(bI_f (by unfold dgP; omega)).symm, rfl, rfl⟩)
  · have hb9 := ht.2.2 i (by omega) (by omega)
    refine lv_aload_n hx_ hb_ dX11_isDigit_8 rfl (lv_at hl 0 rfl) ?_
    refine sc_get (ci := 9) (C := RX11) (T := TX11) (n := 22) S hK hV inX11_ hm0 rfl 4 (by decide) (S.2.2.2.2 _ (List.mem_of_getElem? (i := 2) rfl)) rfl rfl dX11_isDigit_9 ?_
    refine lv_iload_n hx_ hb_ dX11_isDigit_12 rfl (lv_at hl 1 rfl) ?_
    refine sc_iald S hK hV hm3 (by omega) dX11_isDigit_13 ?_
    refine si_bipush S dX11_isDigit_14 (by decide) ?_
    refine sb_lt (tgt := 34) S dX11_isDigit_16 (by decide) (by omega) (fun c2 => ?_) (fun c2 => ?_)
    · refine si_const S dX11_isDigit_34 ?_
      exact sr_z E hQ (Or.inl rfl) dX11_isDigit_35 ⟨Nat.le_of_ble_eq_true rfl, Nat.le_of_ble_eq_true rfl⟩ hV (⟨(bI_f (by unfold dgP; omega)).symm, rfl, rfl⟩)
    · refine lv_aload_n hx_ hb_ dX11_isDigit_19 rfl (lv_at hl 0 rfl) ?_
      refine sc_get (ci := 9) (C := RX11) (T := TX11) (n := 22) S hK hV inX11_ hm0 rfl 4 (by decide) (S.2.2.2.2 _ (List.mem_of_getElem? (i := 2) rfl)) rfl rfl dX11_isDigit_20 ?_
      refine lv_iload_n hx_ hb_ dX11_isDigit_23 rfl (lv_at hl 1 rfl) ?_
      refine sc_iald S hK hV hm3 (by omega) dX11_isDigit_24 ?_
      refine si_bipush S dX11_isDigit_25 (by decide) ?_
      refine sb_gt (tgt := 34) S dX11_isDigit_27 (by decide) (by omega) (fun c3 => ?_) (fun c3 => ?_)
      · refine si_const S dX11_isDigit_34 ?_
        exact sr_z E hQ (Or.inl rfl) dX11_isDigit_35 ⟨Nat.le_of_ble_eq_true rfl, Nat.le_of_ble_eq_true rfl⟩ hV (⟨(bI_f (by unfold dgP; omega)).symm, rfl, rfl⟩)
      · refine si_const S dX11_isDigit_30 ?_
        refine lv_goto (tgt := 35) hx_ hb_ dX11_isDigit_31 (by decide) ?_
        exact sr_z E hQ (Or.inr rfl) dX11_isDigit_35 ⟨Nat.le_of_ble_eq_true rfl, Nat.le_of_ble_eq_true rfl⟩ hV (⟨(bI_t (by unfold dgP; omega)).symm, rfl, rfl⟩)

abbrev rmX11_codeAt : Room := { frames := 2, cells := 0, slots := 0, locals := 61 }
set_option maxHeartbeats 4000000 in
set_option maxRecDepth 100000 in
theorem kX11_codeAt (l_ : Launch) (G : sG) (b_ : Nat) (M : sM) (N : Nat) (m : Nat) (th ch tn ea sn nm wn : Int) (t : Int → Int) (a : Int) (hm0 : M m = some (mO m th ch tn ea sn nm wn)) (hm3 : M (m + 3) = some (sArr G 300 t)) (hn : 0 ≤ tn ∧ tn ≤ 300) (ha : 0 ≤ a ∧ a ≤ 300) (ht : tpOk t tn) : cP l_ yX11_codeAt wsX11_codeAt rmX11_codeAt G b_ M N [.ref m, .int (sI a)] (coA t tn a) := by
  refine sE.ofI (cc := cX11_codeAt) (nL := 6) (ret := (some .int)) (by decide) rfl (Nat.le_of_ble_eq_true rfl) ?_
  intro p_ e_ s_ m_ args_ below_ meth_ c_ ls Q hQ E hl
  have E : sE p_ l_ e_ rmX11_codeAt s_ m_ args_ below_ meth_ c_ cX11_codeAt 6 wsX11_codeAt RX11 "codeAt" (some .int) G b_ M N := E
  have S := E.1
  have hx_ := S.1
  have hb_ := S.2.1
  have hK := E.2.2.2.2.1
  have hV := E.2.2.2.2.2.2
  have hl : lv_has ls 6 [(0, .ref m), (1, .int (sI a))] := hl
  have inX11_ : ∀ w ∈ wsX110, w ∈ wsX11_codeAt := fun _ h => List.mem_cons_of_mem _ (List.mem_append_right _ h)
  refine si_const S dX11_codeAt_0 ?_
  refine lv_istore_n (lv' := [(2, .int (sI 0)), (0, .ref m), (1, .int (sI a))]) hx_ hb_ dX11_codeAt_1 rfl hl (by decide) rfl (fun ls hl => ?_)
  refine si_const S dX11_codeAt_2 ?_
  refine lv_istore_n (lv' := [(3, .int (sI 0)), (2, .int (sI 0)), (0, .ref m), (1, .int (sI a))]) hx_ hb_ dX11_codeAt_3 rfl hl (by decide) rfl (fun ls hl => ?_)
  have L4 : ∀ (fuel : Nat) (v : Int) (k : Int)  (H : Heap) (locs : List Loc) (ls : Array Slot), ((4 - k).toNat) < fuel → (0 ≤ k ∧ k ≤ 4) → (v = coN t tn a k.toNat) → sV G b_ M N s_ H locs → lv_has ls 6 [(0, .ref m), (1, .int (sI a)), (2, .int (sI v)), (3, .int (sI k))] → W p_ l_ e_ rmX11_codeAt s_ m_ args_ below_ meth_ c_ H locs 0 0 Q (F0 m_ 4 ls []) := by
    intro fuel
    induction fuel with
    | zero => intro v k H locs ls hmu; exact absurd hmu (Nat.not_lt_zero _)
    | succ fuel ih4 =>
      intro v k H locs ls hmu4 hv4_0 hv  hV hl
      refine lv_iload_n hx_ hb_ dX11_codeAt_4 rfl (lv_at hl 3 rfl) ?_
      refine si_const S dX11_codeAt_5 ?_
      refine sb_ge (tgt := 74) S dX11_codeAt_6 (by decide) (by omega) (fun c1 => ?_) (fun c1 => ?_)
      · refine lv_iload_n hx_ hb_ dX11_codeAt_74 rfl (lv_at hl 2 rfl) ?_
        exact sr_i E hQ dX11_codeAt_75 ⟨Nat.le_of_ble_eq_true rfl, Nat.le_of_ble_eq_true rfl⟩ hV (⟨by unfold coA; rw [hv, show k = 4 by omega]; rfl, rfl, rfl⟩)
      · refine si_const S dX11_codeAt_9 ?_
        refine lv_istore (lv' := [(4, .int (sI 1)), (0, .ref m), (1, .int (sI a)), (2, .int (sI v)), (3, .int (sI k))]) hx_ hb_ dX11_codeAt_10 hl (by decide) rfl (fun ls hl => ?_)
        refine lv_iload_n hx_ hb_ dX11_codeAt_12 rfl (lv_at hl 2 rfl) ?_
        refine lv_istore (lv' := [(5, .int (sI a)), (4, .int (sI 1)), (0, .ref m), (1, .int (sI a)), (2, .int (sI v)), (3, .int (sI k))]) hx_ hb_ dX11_codeAt_13 hl (by decide) rfl (fun ls hl => ?_)
        have L15 : ∀ (fuel : Nat) (x : Int) (i : Int)  (H : Heap) (locs : List Loc) (ls : Array Slot), ((a + k + 1 - i).toNat) < fuel → (a ≤ i ∧ i ≤ a + k + 1) → (x = bI (∀ q, a ≤ q → q < i → ltP t tn q)) → sV G b_ M N s_ H locs → lv_has ls 6 [(0, .ref m), (1, .int (sI a)), (2, .int (sI v)), (3, .int (sI k)), (4, .int (sI x)), (5, .int (sI i))] → W p_ l_ e_ rmX11_codeAt s_ m_ args_ below_ meth_ c_ H locs 0 0 Q (F0 m_ 15 ls []) := by
          intro fuel
          induction fuel with
          | zero => intro x i H locs ls hmu; exact absurd hmu (Nat.not_lt_zero _)
          | succ fuel ih15 =>
            intro x i H locs ls hmu15 hv15_0 hx  hV hl
            refine lv_iload hx_ hb_ dX11_codeAt_15 (lv_at hl 5 rfl) ?_
            refine lv_iload_n hx_ hb_ dX11_codeAt_17 rfl (lv_at hl 1 rfl) ?_
            refine lv_iload_n hx_ hb_ dX11_codeAt_18 rfl (lv_at hl 3 rfl) ?_
            refine si_add S dX11_codeAt_19 ?_
            refine sb_gt (tgt := 40) S dX11_codeAt_20 (by decide) (by omega) (fun c2 => ?_) (fun c2 => ?_)
            · refine si_bipush S dX11_codeAt_40 (by decide) ?_
              refine lv_iload_n hx_ hb_ dX11_codeAt_42 rfl (lv_at hl 2 rfl) ?_
              refine si_mul S dX11_codeAt_43 ?_
              have ei : i = a + k + 1 := by omega
              have er : (∀ q, a ≤ q → q < i → ltP t tn q) ↔ lrun t tn a k := by unfold lrun; rw [ei]; exact ⟨fun h q h1 h2 => h q h1 (by omega), fun h q h1 h2 => h q h1 (by omega)⟩
              rw [bI_c er] at hx
              refine lv_iload hx_ hb_ dX11_codeAt_44 (lv_at hl 4 rfl) ?_
              refine sz_eq (tgt := 65) S dX11_codeAt_46 (by decide) (by rw [hx]; have := bI_r (c := lrun t tn a k); omega) (fun c3 => ?_) (fun c3 => ?_)
              · have hr : ¬ lrun t tn a k := fun q => absurd (hx.trans (bI_t q)) (by omega)
                refine si_const S dX11_codeAt_65 ?_
                refine si_add S dX11_codeAt_66 ?_
                refine lv_istore_n (lv' := [(2, .int (sI ((27 * v) + 0))), (0, .ref m), (1, .int (sI a)), (3, .int (sI k)), (4, .int (sI x)), (5, .int (sI i))]) hx_ hb_ dX11_codeAt_67 rfl hl (by decide) rfl (fun ls hl => ?_)
                refine si_inc (lv' := [(3, .int (sI (k + 1))), (2, .int (sI ((27 * v) + 0))), (0, .ref m), (1, .int (sI a)), (4, .int (sI x)), (5, .int (sI i))]) S dX11_codeAt_68 hl (k := 3) rfl (by decide) rfl (fun ls hl => ?_)
                refine lv_goto (tgt := 4) hx_ hb_ dX11_codeAt_71 (by decide) ?_
                exact ih4 ((27 * v) + 0) (k + 1) _ _ _ (by omega) (by omega) (by rw [coN_s _ _ _ _ (by omega), ← hv]; unfold cdg; first | rw [pif_t hr] | rw [pif_f hr]) hV (lv_sub hl [2, 3, 1, 0] rfl)
              · have hr : lrun t tn a k := Classical.not_not.mp fun q => absurd (hx.trans (bI_f q)) (by omega)
                have hlt : ltP t tn (a + k) := hr (a + k) (by omega) (by omega)
                unfold ltP at hlt
                refine lv_aload_n hx_ hb_ dX11_codeAt_49 rfl (lv_at hl 0 rfl) ?_
                refine sc_get (ci := 9) (C := RX11) (T := TX11) (n := 22) S hK hV inX11_ hm0 rfl 4 (by decide) (S.2.2.2.2 _ (List.mem_of_getElem? (i := 1) rfl)) rfl rfl dX11_codeAt_50 ?_
                refine lv_iload_n hx_ hb_ dX11_codeAt_53 rfl (lv_at hl 1 rfl) ?_
                refine lv_iload_n hx_ hb_ dX11_codeAt_54 rfl (lv_at hl 3 rfl) ?_
                refine si_add S dX11_codeAt_55 ?_
                refine sc_iald S hK hV hm3 (by omega) dX11_codeAt_56 ?_
                refine si_bipush S dX11_codeAt_57 (by decide) ?_
                refine si_sub S dX11_codeAt_59 ?_
                refine si_const S dX11_codeAt_60 ?_
                refine si_add S dX11_codeAt_61 ?_
                refine lv_goto (tgt := 66) hx_ hb_ dX11_codeAt_62 (by decide) ?_
                refine si_add S dX11_codeAt_66 ?_
                refine lv_istore_n (lv' := [(2, .int (sI ((27 * v) + (((t (a + k)) - 97) + 1)))), (0, .ref m), (1, .int (sI a)), (3, .int (sI k)), (4, .int (sI x)), (5, .int (sI i))]) hx_ hb_ dX11_codeAt_67 rfl hl (by decide) rfl (fun ls hl => ?_)
                refine si_inc (lv' := [(3, .int (sI (k + 1))), (2, .int (sI ((27 * v) + (((t (a + k)) - 97) + 1)))), (0, .ref m), (1, .int (sI a)), (4, .int (sI x)), (5, .int (sI i))]) S dX11_codeAt_68 hl (k := 3) rfl (by decide) rfl (fun ls hl => ?_)
                refine lv_goto (tgt := 4) hx_ hb_ dX11_codeAt_71 (by decide) ?_
                exact ih4 ((27 * v) + (((t (a + k)) - 97) + 1)) (k + 1) _ _ _ (by omega) (by omega) (by rw [coN_s _ _ _ _ (by omega), ← hv]; unfold cdg; first | rw [pif_t hr] | rw [pif_f hr]) hV (lv_sub hl [2, 3, 1, 0] rfl)
            · refine lv_iload hx_ hb_ dX11_codeAt_23 (lv_at hl 4 rfl) ?_
              refine lv_aload_n hx_ hb_ dX11_codeAt_25 rfl (lv_at hl 0 rfl) ?_
              refine lv_iload hx_ hb_ dX11_codeAt_26 (lv_at hl 5 rfl) ?_
              refine sk_VP E hV (As := [.int (sI i)]) (rest := [.int (sI x)]) (kX11_isLetter l_ G b_ M N m th ch tn ea sn nm wn t i hm0 hm3 (by omega) (by omega) (by omega)) (cwV 1 S.2.2.2.2 gX11_codeAt_X11_isLetter rfl rfl rfl (by decide +kernel) ⟨Nat.le_of_ble_eq_true rfl, Nat.le_of_ble_eq_true rfl⟩) (ci := 9) hm0 rfl rfl rfl hl.1 (Nat.le_of_ble_eq_true rfl) dX11_codeAt_28 (c1 := 0) (s1 := 0) ⟨⟨rfl, rfl⟩, by decide, by decide⟩ (fun H locs hV => ?_)
              refine si_and S dX11_codeAt_31 ?_
              refine lv_istore (lv' := [(4, .int (sI (iand x (bI (ltP t tn i))))), (0, .ref m), (1, .int (sI a)), (2, .int (sI v)), (3, .int (sI k)), (5, .int (sI i))]) hx_ hb_ dX11_codeAt_32 hl (by decide) rfl (fun ls hl => ?_)
              refine si_inc (lv' := [(5, .int (sI (i + 1))), (4, .int (sI (iand x (bI (ltP t tn i))))), (0, .ref m), (1, .int (sI a)), (2, .int (sI v)), (3, .int (sI k))]) S dX11_codeAt_34 hl (k := 5) rfl (by decide) rfl (fun ls hl => ?_)
              refine lv_goto (tgt := 15) hx_ hb_ dX11_codeAt_37 (by decide) ?_
              exact ih15 (iand x (bI (ltP t tn i))) (i + 1) _ _ _ (by omega) (by omega) (by rw [hx, iand_bb]; exact bI_c ⟨fun h q h1 h2 => by by_cases e : q = i; exact (by rw [e]; exact h.2); exact h.1 q h1 (by omega), fun h => ⟨fun q h1 h2 => h q h1 (by omega), h i (by omega) (by omega)⟩⟩) hV (lv_sub hl [2, 3, 4, 5, 1, 0] rfl)
        exact L15 _ 1 a _ _ _ (Nat.lt_succ_self _) (by omega) ((bI_t (fun q h1 h2 => by omega)).symm) hV (lv_sub hl [2, 3, 4, 5, 1, 0] rfl)
  exact L4 _ 0 0 _ _ _ (Nat.lt_succ_self _) (by omega) (rfl) hV (lv_sub hl [2, 3, 1, 0] rfl)

abbrev rmX11_withCode : Room := { frames := 2, cells := 0, slots := 0, locals := 60 }
set_option maxHeartbeats 4000000 in
set_option maxRecDepth 100000 in
theorem kX11_withCode (l_ : Launch) (G : sG) (b_ : Nat) (M : sM) (N : Nat) (m : Nat) (th ch tn ea sn nm wn : Int) (f : sF) (c : Int) (hm0 : M m = some (mO m th ch tn ea sn nm wn)) (hm1 : M (m + 1) = some (sArr G 574 f)) (hok : sOk f) (hc : sR c) : cP l_ yX11_withCode wsX11_withCode rmX11_withCode G b_ M N [.ref m, .int (sI c)] (idx (fun q => f q = c) (f 568)) := by
  refine sE.ofI (cc := cX11_withCode) (nL := 3) (ret := (some .int)) (by decide) rfl (Nat.le_of_ble_eq_true rfl) ?_
  intro p_ e_ s_ m_ args_ below_ meth_ c_ ls Q hQ E hl
  have E : sE p_ l_ e_ rmX11_withCode s_ m_ args_ below_ meth_ c_ cX11_withCode 3 wsX11_withCode RX11 "withCode" (some .int) G b_ M N := E
  have S := E.1
  have hx_ := S.1
  have hb_ := S.2.1
  have hK := E.2.2.2.2.1
  have hV := E.2.2.2.2.2.2
  have hl : lv_has ls 3 [(0, .ref m), (1, .int (sI c))] := hl
  have inX11_ : ∀ w ∈ wsX110, w ∈ wsX11_withCode := fun _ h => List.mem_cons_of_mem _ (List.mem_append_right _ h)
  have kn0 := sOk_N hok
  refine si_const S dX11_withCode_0 ?_
  refine lv_istore_n (lv' := [(2, .int (sI 0)), (0, .ref m), (1, .int (sI c))]) hx_ hb_ dX11_withCode_1 rfl hl (by decide) rfl (fun ls hl => ?_)
  have L2 : ∀ (fuel : Nat) (i : Int)  (H : Heap) (locs : List Loc) (ls : Array Slot), ((f 568 - i).toNat) < fuel → (0 ≤ i ∧ i ≤ f 568) → (∀ k, 0 ≤ k → k < i → ¬ f k = c) → sV G b_ M N s_ H locs → lv_has ls 3 [(0, .ref m), (1, .int (sI c)), (2, .int (sI i))] → W p_ l_ e_ rmX11_withCode s_ m_ args_ below_ meth_ c_ H locs 0 0 Q (F0 m_ 2 ls []) := by
    intro fuel
    induction fuel with
    | zero => intro i H locs ls hmu; exact absurd hmu (Nat.not_lt_zero _)
    | succ fuel ih2 =>
      intro i H locs ls hmu2 hv2_0 hn  hV hl
      refine lv_iload_n hx_ hb_ dX11_withCode_2 rfl (lv_at hl 2 rfl) ?_
      refine lv_aload_n hx_ hb_ dX11_withCode_3 rfl (lv_at hl 0 rfl) ?_
      refine sk_VP E hV (As := []) (rest := [.int (sI i)]) (kX11_many l_ G b_ M N m th ch tn ea sn nm wn f hm0 hm1) (cwV 0 S.2.2.2.2 gX11_withCode_X11_many rfl rfl rfl (by decide +kernel) ⟨Nat.le_of_ble_eq_true rfl, Nat.le_of_ble_eq_true rfl⟩) (ci := 9) hm0 rfl rfl rfl hl.1 (Nat.le_of_ble_eq_true rfl) dX11_withCode_4 (c1 := 0) (s1 := 0) ⟨⟨rfl, rfl⟩, by decide, by decide⟩ (fun H locs hV => ?_)
      refine sb_ge (tgt := 30) S dX11_withCode_7 (by decide) (by omega) (fun c1 => ?_) (fun c1 => ?_)
      · refine si_const S dX11_withCode_30 ?_
        exact sr_i E hQ dX11_withCode_31 ⟨Nat.le_of_ble_eq_true rfl, Nat.le_of_ble_eq_true rfl⟩ hV (⟨(idx_none (P := fun q => f q = c) (by rw [show f 568 = i by omega]; exact hn)).symm, rfl, rfl⟩)
      · refine lv_aload_n hx_ hb_ dX11_withCode_10 rfl (lv_at hl 0 rfl) ?_
        refine sc_get (ci := 9) (C := RX11) (T := TX11) (n := 22) S hK hV inX11_ hm0 rfl 1 (by decide) (S.2.2.2.2 _ (List.mem_of_getElem? (i := 1) rfl)) rfl rfl dX11_withCode_11 ?_
        refine si_const S dX11_withCode_14 ?_
        refine lv_iload_n hx_ hb_ dX11_withCode_15 rfl (lv_at hl 2 rfl) ?_
        refine si_add S dX11_withCode_16 ?_
        rw [Int.zero_add]
        refine sc_iald S hK hV hm1 (by omega) dX11_withCode_17 ?_
        refine lv_iload_n hx_ hb_ dX11_withCode_18 rfl (lv_at hl 1 rfl) ?_
        have hi1 := sOk_S hok i (by omega) (by omega)
        refine sb_ne (tgt := 24) S dX11_withCode_19 (by decide) (by omega) (fun h19 => ?_) (fun h19 => ?_)
        · refine si_inc (lv' := [(2, .int (sI (i + 1))), (0, .ref m), (1, .int (sI c))]) S dX11_withCode_24 hl (k := 2) rfl (by decide) rfl (fun ls hl => ?_)
          refine lv_goto (tgt := 2) hx_ hb_ dX11_withCode_27 (by decide) ?_
          exact ih2 (i + 1) _ _ _ (by omega) (by omega) (idx_st hn h19) hV (lv_sub hl [1, 2, 0] rfl)
        · refine lv_iload_n hx_ hb_ dX11_withCode_22 rfl (lv_at hl 2 rfl) ?_
          exact sr_i E hQ dX11_withCode_23 ⟨Nat.le_of_ble_eq_true rfl, Nat.le_of_ble_eq_true rfl⟩ hV (⟨(idx_some (P := fun q => f q = c) ⟨by omega, by omega⟩ h19 hn).symm, rfl, rfl⟩)
  exact L2 _ 0 _ _ _ (Nat.lt_succ_self _) (by omega) (fun k a b => by omega) hV (lv_sub hl [1, 2, 0] rfl)

abbrev rmX11_areNumbers : Room := { frames := 2, cells := 0, slots := 0, locals := 62 }
set_option maxHeartbeats 4000000 in
set_option maxRecDepth 100000 in
theorem kX11_areNumbers (l_ : Launch) (G : sG) (b_ : Nat) (M : sM) (N : Nat) (k z w v : Int) (hr : sR k ∧ sR z ∧ sR w ∧ sR v) : cP l_ yX11_areNumbers wsX11_areNumbers rmX11_areNumbers G b_ M N [.int (sI k), .int (sI z), .int (sI w), .int (sI v)] (bI (nuP k z w v)) := by
  refine sE.ofI (cc := cX11_areNumbers) (nL := 4) (ret := (some .boolean)) (by decide) rfl (Nat.le_of_ble_eq_true rfl) ?_
  intro p_ e_ s_ m_ args_ below_ meth_ c_ ls Q hQ E hl
  have E : sE p_ l_ e_ rmX11_areNumbers s_ m_ args_ below_ meth_ c_ cX11_areNumbers 4 wsX11_areNumbers RX11 "areNumbers" (some .boolean) G b_ M N := E
  have S := E.1
  have hx_ := S.1
  have hb_ := S.2.1
  have hK := E.2.2.2.2.1
  have hV := E.2.2.2.2.2.2
  have hl : lv_has ls 4 [(0, .int (sI k)), (1, .int (sI z)), (2, .int (sI w)), (3, .int (sI v))] := hl
  refine lv_iload_n hx_ hb_ dX11_areNumbers_0 rfl (lv_at hl 0 rfl) ?_
  refine si_const S dX11_areNumbers_1 ?_
  refine si_const S dX11_areNumbers_2 ?_
  refine sk_SP E hV (As := [.int (sI k), .int (sI 0), .int (sI 5)]) (rest := []) (kX11_in l_ G b_ M N k 0 5 (by omega)) (va_cwS 3 S.2.2.2.2 gX11_areNumbers_X11_in rfl rfl rfl (by decide +kernel) ⟨Nat.le_of_ble_eq_true rfl, Nat.le_of_ble_eq_true rfl⟩) rfl rfl hl.1 (Nat.le_of_ble_eq_true rfl) dX11_areNumbers_3 (c1 := 0) (s1 := 0) ⟨⟨rfl, rfl⟩, by decide, by decide⟩ (fun H locs hV => ?_)
  refine sq_eq (tgt := 44) S dX11_areNumbers_6 (by decide) (fun c1 => ?_) (fun c1 => ?_)
  · refine si_const S dX11_areNumbers_44 ?_
    exact sr_z E hQ (Or.inl rfl) dX11_areNumbers_45 ⟨Nat.le_of_ble_eq_true rfl, Nat.le_of_ble_eq_true rfl⟩ hV (⟨(bI_f (by unfold nuP; omega)).symm, rfl, rfl⟩)
  · refine lv_iload_n hx_ hb_ dX11_areNumbers_9 rfl (lv_at hl 1 rfl) ?_
    refine si_const S dX11_areNumbers_10 ?_
    refine si_bipush S dX11_areNumbers_11 (by decide) ?_
    refine sk_SP E hV (As := [.int (sI z), .int (sI 1), .int (sI 9)]) (rest := []) (kX11_in l_ G b_ M N z 1 9 (by omega)) (va_cwS 3 S.2.2.2.2 gX11_areNumbers_X11_in rfl rfl rfl (by decide +kernel) ⟨Nat.le_of_ble_eq_true rfl, Nat.le_of_ble_eq_true rfl⟩) rfl rfl hl.1 (Nat.le_of_ble_eq_true rfl) dX11_areNumbers_13 (c1 := 0) (s1 := 0) ⟨⟨rfl, rfl⟩, by decide, by decide⟩ (fun H locs hV => ?_)
    refine sq_eq (tgt := 44) S dX11_areNumbers_16 (by decide) (fun c2 => ?_) (fun c2 => ?_)
    · refine si_const S dX11_areNumbers_44 ?_
      exact sr_z E hQ (Or.inl rfl) dX11_areNumbers_45 ⟨Nat.le_of_ble_eq_true rfl, Nat.le_of_ble_eq_true rfl⟩ hV (⟨(bI_f (by unfold nuP; omega)).symm, rfl, rfl⟩)
    · refine lv_iload_n hx_ hb_ dX11_areNumbers_19 rfl (lv_at hl 2 rfl) ?_
      refine si_const S dX11_areNumbers_20 ?_
      refine si_bipush S dX11_areNumbers_21 (by decide) ?_
      refine sk_SP E hV (As := [.int (sI w), .int (sI 1), .int (sI 99)]) (rest := []) (kX11_in l_ G b_ M N w 1 99 (by omega)) (va_cwS 3 S.2.2.2.2 gX11_areNumbers_X11_in rfl rfl rfl (by decide +kernel) ⟨Nat.le_of_ble_eq_true rfl, Nat.le_of_ble_eq_true rfl⟩) rfl rfl hl.1 (Nat.le_of_ble_eq_true rfl) dX11_areNumbers_23 (c1 := 0) (s1 := 0) ⟨⟨rfl, rfl⟩, by decide, by decide⟩ (fun H locs hV => ?_)
      refine sq_eq (tgt := 44) S dX11_areNumbers_26 (by decide) (fun c3 => ?_) (fun c3 => ?_)
      · refine si_const S dX11_areNumbers_44 ?_
        exact sr_z E hQ (Or.inl rfl) dX11_areNumbers_45 ⟨Nat.le_of_ble_eq_true rfl, Nat.le_of_ble_eq_true rfl⟩ hV (⟨(bI_f (by unfold nuP; omega)).symm, rfl, rfl⟩)
      · refine lv_iload_n hx_ hb_ dX11_areNumbers_29 rfl (lv_at hl 3 rfl) ?_
        refine si_const S dX11_areNumbers_30 ?_
        refine si_sipush S dX11_areNumbers_31 (by decide) ?_
        refine sk_SP E hV (As := [.int (sI v), .int (sI 0), .int (sI 10000)]) (rest := []) (kX11_in l_ G b_ M N v 0 10000 (by omega)) (va_cwS 3 S.2.2.2.2 gX11_areNumbers_X11_in rfl rfl rfl (by decide +kernel) ⟨Nat.le_of_ble_eq_true rfl, Nat.le_of_ble_eq_true rfl⟩) rfl rfl hl.1 (Nat.le_of_ble_eq_true rfl) dX11_areNumbers_34 (c1 := 0) (s1 := 0) ⟨⟨rfl, rfl⟩, by decide, by decide⟩ (fun H locs hV => ?_)
        refine sq_eq (tgt := 44) S dX11_areNumbers_37 (by decide) (fun c4 => ?_) (fun c4 => ?_)
        · refine si_const S dX11_areNumbers_44 ?_
          exact sr_z E hQ (Or.inl rfl) dX11_areNumbers_45 ⟨Nat.le_of_ble_eq_true rfl, Nat.le_of_ble_eq_true rfl⟩ hV (⟨(bI_f (by unfold nuP; omega)).symm, rfl, rfl⟩)
        · refine si_const S dX11_areNumbers_40 ?_
          refine lv_goto (tgt := 45) hx_ hb_ dX11_areNumbers_41 (by decide) ?_
          exact sr_z E hQ (Or.inr rfl) dX11_areNumbers_45 ⟨Nat.le_of_ble_eq_true rfl, Nat.le_of_ble_eq_true rfl⟩ hV (⟨(bI_t (by unfold nuP; omega)).symm, rfl, rfl⟩)

abbrev rmX11_comes : Room := { frames := 2, cells := 0, slots := 0, locals := 60 }
set_option maxHeartbeats 4000000 in
set_option maxRecDepth 100000 in
theorem kX11_comes (l_ : Launch) (G : sG) (b_ : Nat) (M : sM) (N : Nat) (m : Nat) (th ch tn ea sn nm wn : Int) (f : sF) (c k z w v : Int) (hm0 : M m = some (mO m th ch tn ea sn nm wn)) (hm1 : M (m + 1) = some (sArr G 574 f)) (hs : 0 ≤ f 568 ∧ f 568 ≤ 9) : cI l_ yX11_comes wsX11_comes rmX11_comes G b_ M N [.ref m, .int (sI c), .int (sI k), .int (sI z), .int (sI w), .int (sI v)] (fun z_ M1 N1 => z_ = f 568 ∧ N1 = N ∧ M1 (m + 1) = some (sArr G 574 (comF f c k z w v)) ∧ (∀ x : Nat, ¬ (x = m + 1) → M1 x = M x)) := by
  refine sE.ofI (cc := cX11_comes) (nL := 7) (ret := (some .int)) (by decide) rfl (Nat.le_of_ble_eq_true rfl) ?_
  intro p_ e_ s_ m_ args_ below_ meth_ c_ ls Q hQ E hl
  have E : sE p_ l_ e_ rmX11_comes s_ m_ args_ below_ meth_ c_ cX11_comes 7 wsX11_comes RX11 "comes" (some .int) G b_ M N := E
  have S := E.1
  have hx_ := S.1
  have hb_ := S.2.1
  have hK := E.2.2.2.2.1
  have hV := E.2.2.2.2.2.2
  have hl : lv_has ls 7 [(0, .ref m), (1, .int (sI c)), (2, .int (sI k)), (3, .int (sI z)), (4, .int (sI w)), (5, .int (sI v))] := hl
  have inX11_ : ∀ w ∈ wsX110, w ∈ wsX11_comes := fun _ h => List.mem_cons_of_mem _ (List.mem_append_right _ h)
  refine lv_aload_n hx_ hb_ dX11_comes_0 rfl (lv_at hl 0 rfl) ?_
  refine sk_VP E hV (As := []) (rest := []) (kX11_many l_ G b_ M N m th ch tn ea sn nm wn f hm0 hm1) (cwV 0 S.2.2.2.2 gX11_comes_X11_many rfl rfl rfl (by decide +kernel) ⟨Nat.le_of_ble_eq_true rfl, Nat.le_of_ble_eq_true rfl⟩) (ci := 9) hm0 rfl rfl rfl hl.1 (Nat.le_of_ble_eq_true rfl) dX11_comes_1 (c1 := 0) (s1 := 0) ⟨⟨rfl, rfl⟩, by decide, by decide⟩ (fun H locs hV => ?_)
  refine lv_istore (lv' := [(6, .int (sI (f 568))), (0, .ref m), (1, .int (sI c)), (2, .int (sI k)), (3, .int (sI z)), (4, .int (sI w)), (5, .int (sI v))]) hx_ hb_ dX11_comes_4 hl (by decide) rfl (fun ls hl => ?_)
  refine lv_aload_n hx_ hb_ dX11_comes_6 rfl (lv_at hl 1 rfl) ?_
  refine sc_get (ci := 9) (C := RX11) (T := TX11) (n := 22) S hK hV inX11_ hm0 rfl 1 (by decide) (S.2.2.2.2 _ (List.mem_of_getElem? (i := 1) rfl)) rfl rfl dX11_comes_7 ?_
  refine si_const S dX11_comes_10 ?_
  refine lv_iload hx_ hb_ dX11_comes_11 (lv_at hl 0 rfl) ?_
  refine si_add S dX11_comes_13 ?_
  rw [Int.zero_add]
  refine lv_iload_n hx_ hb_ dX11_comes_14 rfl (lv_at hl 2 rfl) ?_
  refine sc_iast S hK hV hm1 (by omega) dX11_comes_15 (fun M1 H locs hM1 hV => ?_)
  have hc2 : M1 (m + 1) = some (sArr G 574 (iup f (f 568) c)) := (congrFun hM1 (m + 1)).trans (va_up_self M (m + 1) _)
  refine lv_aload_n hx_ hb_ dX11_comes_16 rfl (lv_at hl 1 rfl) ?_
  have hc3 : M1 m = some (mO m th ch tn ea sn nm wn) := ((congrFun hM1 m).trans (va_up_ne M _ (by omega))).trans hm0
  refine sc_get (ci := 9) (C := RX11) (T := TX11) (n := 22) S hK hV inX11_ hc3 rfl 1 (by decide) (S.2.2.2.2 _ (List.mem_of_getElem? (i := 1) rfl)) rfl rfl dX11_comes_17 ?_
  refine si_bipush S dX11_comes_20 (by decide) ?_
  refine lv_iload hx_ hb_ dX11_comes_22 (lv_at hl 0 rfl) ?_
  refine si_add S dX11_comes_24 ?_
  refine lv_iload_n hx_ hb_ dX11_comes_25 rfl (lv_at hl 3 rfl) ?_
  refine sc_iast S hK hV hc2 (by omega) dX11_comes_26 (fun M4 H locs hM4 hV => ?_)
  have hc5 : M4 (m + 1) = some (sArr G 574 (iup (iup f (f 568) c) (10 + (f 568)) k)) := (congrFun hM4 (m + 1)).trans (va_up_self M1 (m + 1) _)
  refine lv_aload_n hx_ hb_ dX11_comes_27 rfl (lv_at hl 1 rfl) ?_
  have hc6 : M4 m = some (mO m th ch tn ea sn nm wn) := ((congrFun hM4 m).trans (va_up_ne M1 _ (by omega))).trans hc3
  refine sc_get (ci := 9) (C := RX11) (T := TX11) (n := 22) S hK hV inX11_ hc6 rfl 1 (by decide) (S.2.2.2.2 _ (List.mem_of_getElem? (i := 1) rfl)) rfl rfl dX11_comes_28 ?_
  refine si_bipush S dX11_comes_31 (by decide) ?_
  refine lv_iload hx_ hb_ dX11_comes_33 (lv_at hl 0 rfl) ?_
  refine si_add S dX11_comes_35 ?_
  refine lv_iload_n hx_ hb_ dX11_comes_36 rfl (lv_at hl 4 rfl) ?_
  refine sc_iast S hK hV hc5 (by omega) dX11_comes_37 (fun M7 H locs hM7 hV => ?_)
  have hc8 : M7 (m + 1) = some (sArr G 574 (iup (iup (iup f (f 568) c) (10 + (f 568)) k) (20 + (f 568)) z)) := (congrFun hM7 (m + 1)).trans (va_up_self M4 (m + 1) _)
  refine lv_aload_n hx_ hb_ dX11_comes_38 rfl (lv_at hl 1 rfl) ?_
  have hc9 : M7 m = some (mO m th ch tn ea sn nm wn) := ((congrFun hM7 m).trans (va_up_ne M4 _ (by omega))).trans hc6
  refine sc_get (ci := 9) (C := RX11) (T := TX11) (n := 22) S hK hV inX11_ hc9 rfl 1 (by decide) (S.2.2.2.2 _ (List.mem_of_getElem? (i := 1) rfl)) rfl rfl dX11_comes_39 ?_
  refine si_bipush S dX11_comes_42 (by decide) ?_
  refine lv_iload hx_ hb_ dX11_comes_44 (lv_at hl 0 rfl) ?_
  refine si_add S dX11_comes_46 ?_
  refine lv_iload hx_ hb_ dX11_comes_47 (lv_at hl 5 rfl) ?_
  refine sc_iast S hK hV hc8 (by omega) dX11_comes_49 (fun M10 H locs hM10 hV => ?_)
  have hc11 : M10 (m + 1) = some (sArr G 574 (iup (iup (iup (iup f (f 568) c) (10 + (f 568)) k) (20 + (f 568)) z) (30 + (f 568)) w)) := (congrFun hM10 (m + 1)).trans (va_up_self M7 (m + 1) _)
  refine lv_aload_n hx_ hb_ dX11_comes_50 rfl (lv_at hl 1 rfl) ?_
  have hc12 : M10 m = some (mO m th ch tn ea sn nm wn) := ((congrFun hM10 m).trans (va_up_ne M7 _ (by omega))).trans hc9
  refine sc_get (ci := 9) (C := RX11) (T := TX11) (n := 22) S hK hV inX11_ hc12 rfl 1 (by decide) (S.2.2.2.2 _ (List.mem_of_getElem? (i := 1) rfl)) rfl rfl dX11_comes_51 ?_
  refine si_bipush S dX11_comes_54 (by decide) ?_
  refine lv_iload hx_ hb_ dX11_comes_56 (lv_at hl 0 rfl) ?_
  refine si_add S dX11_comes_58 ?_
  refine lv_iload hx_ hb_ dX11_comes_59 (lv_at hl 6 rfl) ?_
  refine sc_iast S hK hV hc11 (by omega) dX11_comes_61 (fun M13 H locs hM13 hV => ?_)
  have hc14 : M13 (m + 1) = some (sArr G 574 (iup (iup (iup (iup (iup f (f 568) c) (10 + (f 568)) k) (20 + (f 568)) z) (30 + (f 568)) w) (40 + (f 568)) v)) := (congrFun hM13 (m + 1)).trans (va_up_self M10 (m + 1) _)
  refine lv_aload_n hx_ hb_ dX11_comes_62 rfl (lv_at hl 1 rfl) ?_
  have hc15 : M13 m = some (mO m th ch tn ea sn nm wn) := ((congrFun hM13 m).trans (va_up_ne M10 _ (by omega))).trans hc12
  refine sc_get (ci := 9) (C := RX11) (T := TX11) (n := 22) S hK hV inX11_ hc15 rfl 1 (by decide) (S.2.2.2.2 _ (List.mem_of_getElem? (i := 1) rfl)) rfl rfl dX11_comes_63 ?_
  refine si_bipush S dX11_comes_66 (by decide) ?_
  refine lv_iload hx_ hb_ dX11_comes_68 (lv_at hl 0 rfl) ?_
  refine si_add S dX11_comes_70 ?_
  refine si_const S dX11_comes_71 ?_
  refine sc_iast S hK hV hc14 (by omega) dX11_comes_72 (fun M16 H locs hM16 hV => ?_)
  have hc17 : M16 (m + 1) = some (sArr G 574 (iup (iup (iup (iup (iup (iup f (f 568) c) (10 + (f 568)) k) (20 + (f 568)) z) (30 + (f 568)) w) (40 + (f 568)) v) (50 + (f 568)) (-1))) := (congrFun hM16 (m + 1)).trans (va_up_self M13 (m + 1) _)
  refine lv_aload_n hx_ hb_ dX11_comes_73 rfl (lv_at hl 1 rfl) ?_
  have hc18 : M16 m = some (mO m th ch tn ea sn nm wn) := ((congrFun hM16 m).trans (va_up_ne M13 _ (by omega))).trans hc15
  refine sc_get (ci := 9) (C := RX11) (T := TX11) (n := 22) S hK hV inX11_ hc18 rfl 1 (by decide) (S.2.2.2.2 _ (List.mem_of_getElem? (i := 1) rfl)) rfl rfl dX11_comes_74 ?_
  refine si_bipush S dX11_comes_77 (by decide) ?_
  refine lv_iload hx_ hb_ dX11_comes_79 (lv_at hl 0 rfl) ?_
  refine si_add S dX11_comes_81 ?_
  refine si_sipush S dX11_comes_82 (by decide) ?_
  refine sc_iast S hK hV hc17 (by omega) dX11_comes_85 (fun M19 H locs hM19 hV => ?_)
  have hc20 : M19 (m + 1) = some (sArr G 574 (iup (iup (iup (iup (iup (iup (iup f (f 568) c) (10 + (f 568)) k) (20 + (f 568)) z) (30 + (f 568)) w) (40 + (f 568)) v) (50 + (f 568)) (-1)) (60 + (f 568)) 5000)) := (congrFun hM19 (m + 1)).trans (va_up_self M16 (m + 1) _)
  refine lv_aload_n hx_ hb_ dX11_comes_86 rfl (lv_at hl 1 rfl) ?_
  have hc21 : M19 m = some (mO m th ch tn ea sn nm wn) := ((congrFun hM19 m).trans (va_up_ne M16 _ (by omega))).trans hc18
  refine sc_get (ci := 9) (C := RX11) (T := TX11) (n := 22) S hK hV inX11_ hc21 rfl 1 (by decide) (S.2.2.2.2 _ (List.mem_of_getElem? (i := 1) rfl)) rfl rfl dX11_comes_87 ?_
  refine si_sipush S dX11_comes_90 (by decide) ?_
  refine lv_dup2_11 hx_ hb_ dX11_comes_93 rfl rfl ?_
  refine sc_iald S hK hV hc20 (by omega) dX11_comes_94 ?_
  refine si_const S dX11_comes_95 ?_
  refine si_add S dX11_comes_96 ?_
  refine sc_iast S hK hV hc20 (by omega) dX11_comes_97 (fun M22 H locs hM22 hV => ?_)
  have hc23 : M22 (m + 1) = some (sArr G 574 (iup (iup (iup (iup (iup (iup (iup (iup f (f 568) c) (10 + (f 568)) k) (20 + (f 568)) z) (30 + (f 568)) w) (40 + (f 568)) v) (50 + (f 568)) (-1)) (60 + (f 568)) 5000) 568 (((iup (iup (iup (iup (iup (iup (iup f (f 568) c) (10 + (f 568)) k) (20 + (f 568)) z) (30 + (f 568)) w) (40 + (f 568)) v) (50 + (f 568)) (-1)) (60 + (f 568)) 5000) 568) + 1))) := (congrFun hM22 (m + 1)).trans (va_up_self M19 (m + 1) _)
  refine lv_iload hx_ hb_ dX11_comes_98 (lv_at hl 0 rfl) ?_
  exact sr_i E hQ dX11_comes_100 ⟨Nat.le_of_ble_eq_true rfl, Nat.le_of_ble_eq_true rfl⟩ hV (⟨rfl, rfl, by unfold comF; rw [show (iup (iup (iup (iup (iup (iup (iup f (f 568) c) (10 + f 568) k) (20 + f 568) z) (30 + f 568) w) (40 + f 568) v) (50 + f 568) (-1)) (60 + f 568) 5000) 568 = f 568 by simp only [iup]; (repeat (first | rw [if_pos (by omega)] | rw [if_neg (by omega)]))] at hc23; exact hc23, fun x q0 => ((((((((congrFun hM22 x).trans (va_up_ne M19 _ (by omega))).trans ((congrFun hM19 x).trans (va_up_ne M16 _ (by omega)))).trans ((congrFun hM16 x).trans (va_up_ne M13 _ (by omega)))).trans ((congrFun hM13 x).trans (va_up_ne M10 _ (by omega)))).trans ((congrFun hM10 x).trans (va_up_ne M7 _ (by omega)))).trans ((congrFun hM7 x).trans (va_up_ne M4 _ (by omega)))).trans ((congrFun hM4 x).trans (va_up_ne M1 _ (by omega)))).trans ((congrFun hM1 x).trans (va_up_ne M _ (by omega)))⟩)
