/-! What the numbers of a State keep to. -/
abbrev okS (f : sF) (s : Int) : Prop := (1 ≤ f s ∧ f s < 531441) ∧ (0 ≤ f (10 + s) ∧ f (10 + s) ≤ 5) ∧ (1 ≤ f (20 + s) ∧ f (20 + s) ≤ 9) ∧ (1 ≤ f (30 + s) ∧ f (30 + s) ≤ 99) ∧ (0 ≤ f (40 + s) ∧ f (40 + s) ≤ 10000) ∧ (-1 ≤ f (50 + s) ∧ f (50 + s) ≤ 3) ∧ (0 ≤ f (60 + s) ∧ f (60 + s) ≤ 100000)
abbrev okC (f : sF) (k : Int) : Prop := (0 ≤ f (70 + k) ∧ f (70 + k) < f 568) ∧ (0 ≤ f (110 + k) ∧ f (110 + k) < f 568) ∧ f (70 + k) ≠ f (110 + k)
abbrev okD (f : sF) (d : Int) : Prop := (0 ≤ f (150 + d) ∧ f (150 + d) ≤ 99) ∧ (0 ≤ f (154 + d) ∧ f (154 + d) ≤ 999)
abbrev okP (f : sF) (i : Int) : Prop := 0 ≤ f (158 + i) ∧ f (158 + i) ≤ 63
abbrev okT (f : sF) (n : Int) : Prop := (0 ≤ f (164 + n) ∧ f (164 + n) < f 568) ∧ (isDt (dat (f (224 + n))) ∧ dayI (dat (f (224 + n))) + 3652 = f (224 + n)) ∧ (0 ≤ f (284 + n) ∧ f (284 + n) ≤ 6) ∧ (1 ≤ f (344 + n) ∧ f (344 + n) ≤ f 571) ∧ (0 ≤ f (404 + n) ∧ f (404 + n) ≤ f 571)
abbrev okW (f : sF) (k : Int) : Prop := (0 ≤ f (464 + k) ∧ f (464 + k) < f 568) ∧ (isDt (dat (f (484 + k))) ∧ dayI (dat (f (484 + k))) + 3652 = f (484 + k)) ∧ (1 ≤ f (504 + k) ∧ f (504 + k) ≤ 400) ∧ (1 ≤ f (524 + k) ∧ f (524 + k) ≤ 1000) ∧ f (484 + k) + f (504 + k) ≤ 113225
abbrev okO (f : sF) (o : Int) : Prop := (0 ≤ f (544 + o) ∧ f (544 + o) ≤ 4) ∧ (0 ≤ f (552 + o) ∧ f (552 + o) ≤ 5) ∧ (0 ≤ f (560 + o) ∧ f (560 + o) ≤ 5) ∧ f (552 + o) ≠ f (560 + o)
abbrev okN (f : sF) : Prop := (0 ≤ f 568 ∧ f 568 ≤ 10) ∧ (0 ≤ f 569 ∧ f 569 ≤ 40) ∧ (0 ≤ f 570 ∧ f 570 ≤ 60) ∧ (0 ≤ f 571 ∧ f 571 ≤ 1000) ∧ (0 ≤ f 572 ∧ f 572 ≤ 20) ∧ (0 ≤ f 573 ∧ f 573 ≤ 8)
def sOk (f : sF) : Prop := okN f ∧ (∀ s, 0 ≤ s → s < f 568 → okS f s) ∧ (∀ k, 0 ≤ k → k < f 569 → okC f k) ∧ (∀ d, 0 ≤ d → d < 4 → okD f d) ∧ ((∀ i, 0 ≤ i → i < 6 → okP f i) ∧ ∀ i j, 0 ≤ i → i < 6 → 0 ≤ j → j < 6 → (tb (f (158 + i)) j ↔ tb (f (158 + j)) i)) ∧ (∀ n, 0 ≤ n → n < f 570 → okT f n) ∧ (∀ k, 0 ≤ k → k < f 572 → okW f k) ∧ (∀ o, 0 ≤ o → o < f 573 → okO f o) ∧ (∀ s o, 0 ≤ s → s < f 568 → 0 ≤ o → o < f 568 → f s = f o → s = o)
theorem sOk_N {f : sF} (h : sOk f) : okN f := h.1
theorem sOk_S {f : sF} (h : sOk f) (s : Int) (a : 0 ≤ s) (b : s < f 568) : okS f s := h.2.1 s a b
theorem sOk_C {f : sF} (h : sOk f) (s : Int) (a : 0 ≤ s) (b : s < f 569) : okC f s := h.2.2.1 s a b
theorem sOk_D {f : sF} (h : sOk f) (s : Int) (a : 0 ≤ s) (b : s < 4) : okD f s := h.2.2.2.1 s a b
theorem sOk_P {f : sF} (h : sOk f) (s : Int) (a : 0 ≤ s) (b : s < 6) : okP f s := h.2.2.2.2.1.1 s a b
theorem sOk_Ps {f : sF} (h : sOk f) (i j : Int) (a : 0 ≤ i) (b : i < 6) (c : 0 ≤ j) (d : j < 6) : tb (f (158 + i)) j ↔ tb (f (158 + j)) i := h.2.2.2.2.1.2 i j a b c d
theorem sOk_T {f : sF} (h : sOk f) (s : Int) (a : 0 ≤ s) (b : s < f 570) : okT f s := h.2.2.2.2.2.1 s a b
theorem sOk_W {f : sF} (h : sOk f) (s : Int) (a : 0 ≤ s) (b : s < f 572) : okW f s := h.2.2.2.2.2.2.1 s a b
theorem sOk_O {f : sF} (h : sOk f) (s : Int) (a : 0 ≤ s) (b : s < f 573) : okO f s := h.2.2.2.2.2.2.2.1 s a b
theorem sOk_i {f : sF} (h : sOk f) (s o : Int) (a : 0 ≤ s) (b : s < f 568) (c : 0 ≤ o) (d : o < f 568) (e : f s = f o) : s = o := h.2.2.2.2.2.2.2.2 s o a b c d e
theorem cby_r (x : Int) (h : 0 ≤ x ∧ x < 27) : 0 ≤ cby x ∧ cby x ≤ 122 ∧ (x = 0 → cby x = 0) ∧ (x ≠ 0 → cby x = 96 + x) := by
  unfold cby
  split
  · exact ⟨by omega, by omega, fun _ => rfl, fun q => absurd ‹_› q⟩
  · exact ⟨by omega, by omega, fun q => absurd q ‹_›, fun _ => rfl⟩
theorem cby_lt {x y : Int} (hx : 0 ≤ x) (h : x < y) (hy : y < 27) : cby x < cby y := by
  have h1 := cby_r x (by omega)
  have h2 := (cby_r y (by omega)).2.2.2 (by omega)
  by_cases h0 : x = 0
  · have := h1.2.2.1 h0; omega
  · have := h1.2.2.2 h0; omega
theorem cod_lt {v w : Int} (hv : 0 ≤ v) (h : v < w) (hw : w < 531441) : cod v < cod w := by
  unfold cod
  have a1 := cby_r (v / 19683) (by omega)
  have a2 := cby_r (v / 729 % 27) (by omega)
  have a3 := cby_r (v / 27 % 27) (by omega)
  have a4 := cby_r (v % 27) (by omega)
  have b1 := cby_r (w / 19683) (by omega)
  have b2 := cby_r (w / 729 % 27) (by omega)
  have b3 := cby_r (w / 27 % 27) (by omega)
  have b4 := cby_r (w % 27) (by omega)
  have a1 := a1.1
  have a2 : 0 ≤ cby (v / 729 % 27) ∧ cby (v / 729 % 27) ≤ 122 := ⟨a2.1, a2.2.1⟩
  have a3 : 0 ≤ cby (v / 27 % 27) ∧ cby (v / 27 % 27) ≤ 122 := ⟨a3.1, a3.2.1⟩
  have a4 : 0 ≤ cby (v % 27) ∧ cby (v % 27) ≤ 122 := ⟨a4.1, a4.2.1⟩
  have b2 : 0 ≤ cby (w / 729 % 27) ∧ cby (w / 729 % 27) ≤ 122 := ⟨b2.1, b2.2.1⟩
  have b3 : 0 ≤ cby (w / 27 % 27) ∧ cby (w / 27 % 27) ≤ 122 := ⟨b3.1, b3.2.1⟩
  have b4 : 0 ≤ cby (w % 27) ∧ cby (w % 27) ≤ 122 := ⟨b4.1, b4.2.1⟩
  have b1 := b1.1
  by_cases c1 : v / 19683 = w / 19683
  · by_cases c2 : v / 729 % 27 = w / 729 % 27
    · by_cases c3 : v / 27 % 27 = w / 27 % 27
      · have := cby_lt (x := v % 27) (y := w % 27) (by omega) (by omega) (by omega)
        rw [c1, c2, c3]
        omega
      · have := cby_lt (x := v / 27 % 27) (y := w / 27 % 27) (by omega) (by omega) (by omega)
        rw [c1, c2]
        omega
    · have := cby_lt (x := v / 729 % 27) (y := w / 729 % 27) (by omega) (by omega) (by omega)
      rw [c1]
      omega
  · have := cby_lt (x := v / 19683) (y := w / 19683) (by omega) (by omega) (by omega)
    omega
theorem cod_inj {v w : Int} (hv : 0 ≤ v ∧ v < 531441) (hw : 0 ≤ w ∧ w < 531441) : cod v = cod w ↔ v = w := by
  constructor
  · intro h
    rcases Int.lt_trichotomy v w with q | q | q
    · have := cod_lt hv.1 q hw.2; omega
    · exact q
    · have := cod_lt hw.1 q hv.2; omega
  · intro h; rw [h]
theorem cod_lti {v w : Int} (hv : 0 ≤ v ∧ v < 531441) (hw : 0 ≤ w ∧ w < 531441) : cod v < cod w ↔ v < w := by
  constructor
  · intro h
    rcases Int.lt_trichotomy v w with q | q | q
    · exact q
    · rw [q] at h; omega
    · have := cod_lt hw.1 q hv.2; omega
  · intro h; exact cod_lt hv.1 h hw.2
theorem cod_r {v : Int} (hv : 0 ≤ v ∧ v < 531441) : 0 ≤ cod v ∧ cod v ≤ 2054847098 := by
  have a1 := cby_r (v / 19683) (by omega)
  have a2 := cby_r (v / 729 % 27) (by omega)
  have a3 := cby_r (v / 27 % 27) (by omega)
  have a4 := cby_r (v % 27) (by omega)
  have a1 := And.intro a1.1 a1.2.1
  have a2 := And.intro a2.1 a2.2.1
  have a3 := And.intro a3.1 a3.2.1
  have a4 := And.intro a4.1 a4.2.1
  unfold cod
  omega
theorem cod_1 {v : Int} (hv : 1 ≤ v ∧ v < 531441) : 1 ≤ cod v := by
  have h0 : cod 0 = 0 := by decide
  have := cod_lt (v := 0) (w := v) (by omega) (by omega) hv.2
  omega
/-! What lies in drawers. -/
/-- what a stone counts in a drawer: 0 one, 1 its size, 2 its weight -/
def lyT (f : sF) (d w s : Int) : Int := if f (50 + s) = d then (if w = 0 then 1 else if w = 1 then f (20 + s) else f (30 + s)) else 0
def irP (c v : Int) : Prop := (c = 0 ∧ 0 ≤ v ∧ v ≤ 5) ∨ (c = 1 ∧ 1 ≤ v ∧ v ≤ 9) ∨ (c = 2 ∧ 1 ≤ v ∧ v ≤ 99) ∨ (¬ (c = 0 ∨ c = 1 ∨ c = 2) ∧ 0 ≤ v ∧ v ≤ 10000)
def plT (f : sF) (s o : Int) : Int := if f o < f s then 1 else 0
def inO (f : sF) (s o : Int) : Prop := s ≠ o ∧ f (50 + s) ≠ -1 ∧ f (50 + s) = f (50 + o)
def lieP (f : sF) (one oth : Int) : Prop := ∃ s o, (0 ≤ s ∧ s < f 568 ∧ 0 ≤ o ∧ o < f 568) ∧ inO f s o ∧ f (10 + s) = one ∧ f (10 + o) = oth
def ptP (f : sF) (d : Int) : Prop := ∃ s o, (0 ≤ o ∧ o < s ∧ s < f 568) ∧ f (50 + s) = d ∧ inO f s o ∧ tb (f (158 + f (10 + s))) (f (10 + o))
noncomputable def whyF (f : sF) (d : Int) : Int := pif (f (150 + d) < isum (f 568) (lyT f d 1)) 1 (pif (f (154 + d) < isum (f 568) (lyT f d 2)) 2 (pif (ptP f d) 3 0))
theorem lyT_r {f : sF} (h : sOk f) (d w s : Int) (a : 0 ≤ s) (b : s < f 568) : 0 ≤ lyT f d w s ∧ lyT f d w s ≤ 99 := by
  have := sOk_S h s a b
  unfold lyT
  split
  · split
    · omega
    · split <;> omega
  · omega
theorem ly_r {f : sF} (h : sOk f) (d w n : Int) (a : 0 ≤ n) (b : n ≤ f 568) : 0 ≤ isum n (lyT f d w) ∧ isum n (lyT f d w) ≤ 990 := by
  have := sOk_N h
  exact isum_bn (hi := 99) (N := 10) ⟨a, by omega⟩ (by omega) fun k q r => lyT_r h d w k q (by omega)
theorem whyF_r (f : sF) (d : Int) : 0 ≤ whyF f d ∧ whyF f d ≤ 3 := by
  unfold whyF
  rcases pif_cases (f (150 + d) < isum (f 568) (lyT f d 1)) 1 (pif (f (154 + d) < isum (f 568) (lyT f d 2)) 2 (pif (ptP f d) 3 0)) with ⟨-, e⟩ | ⟨-, e⟩
  · omega
  · rcases pif_cases (f (154 + d) < isum (f 568) (lyT f d 2)) 2 (pif (ptP f d) 3 0) with ⟨-, e2⟩ | ⟨-, e2⟩
    · omega
    · rcases pif_cases (ptP f d) 3 0 with ⟨-, e3⟩ | ⟨-, e3⟩ <;> omega
/-- the numbers at first -/
def f0 : sF := fun k => if 150 ≤ k ∧ k < 154 then 20 else if 154 ≤ k ∧ k < 158 then 200 else 0
/-- a stone comes -/
def comF (f : sF) (c k z w v : Int) : sF := iup (iup (iup (iup (iup (iup (iup (iup f (f 568) c) (10 + f 568) k) (20 + f 568) z) (30 + f 568) w) (40 + f 568) v) (50 + f 568) (-1)) (60 + f 568) 5000) 568 (f 568 + 1)

theorem lyT_v (f : sF) (d j s : Int) (hj : 1 ≤ j ∧ j ≤ 2) : lyT f d j s = if f (50 + s) = d then f (10 + 10 * j + s) else 0 := by
  unfold lyT
  rcases (show j = 1 ∨ j = 2 by omega) with rfl | rfl
  · split <;> simp
  · split <;> simp
theorem lyT_0 (f : sF) (d s : Int) : lyT f d 0 s = if f (50 + s) = d then 1 else 0 := by
  unfold lyT
  split <;> simp
theorem okS_v {f : sF} (h : sOk f) (j s : Int) (hj : 0 ≤ j ∧ j ≤ 3) (a : 0 ≤ s) (b : s < f 568) : 0 ≤ f (10 + 10 * j + s) ∧ f (10 + 10 * j + s) ≤ 10000 := by
  have h1 := sOk_S h s a b
  rcases (show j = 0 ∨ j = 1 ∨ j = 2 ∨ j = 3 by omega) with rfl | rfl | rfl | rfl
  · rw [show (10 + 10 * 0 + s : Int) = 10 + s by omega]; omega
  · rw [show (10 + 10 * 1 + s : Int) = 20 + s by omega]; omega
  · rw [show (10 + 10 * 2 + s : Int) = 30 + s by omega]; omega
  · rw [show (10 + 10 * 3 + s : Int) = 40 + s by omega]; omega

abbrev rmX6_isInRange : Room := { frames := 1, cells := 0, slots := 0, locals := 40 }
set_option maxHeartbeats 4000000 in
set_option maxRecDepth 100000 in
theorem kX6_isInRange (l_ : Launch) (G : sG) (b_ : Nat) (M : sM) (N : Nat) (j v : Int) (hj : 0 ≤ j ∧ j ≤ 3) (hv : sR v) : cP l_ yX6_isInRange wsX6_isInRange rmX6_isInRange G b_ M N [.int (sI j), .int (sI v)] (bI (irP j v)) := by
  refine sE.ofI (cc := cX6_isInRange) (nL := 2) (ret := (some .boolean)) (by decide) rfl (Nat.le_of_ble_eq_true rfl) ?_
  intro p_ e_ s_ m_ args_ below_ meth_ c_ ls Q hQ E hl
  have E : sE p_ l_ e_ rmX6_isInRange s_ m_ args_ below_ meth_ c_ cX6_isInRange 2 wsX6_isInRange RX6 "isInRange" (some .boolean) G b_ M N := E
  have S := E.1
  have hx_ := S.1
  have hb_ := S.2.1
  have hK := E.2.2.2.2.1
  have hV := E.2.2.2.2.2.2
  have hl : lv_has ls 2 [(0, .int (sI j)), (1, .int (sI v))] := hl
  refine lv_iload_n hx_ hb_ dX6_isInRange_0 rfl (lv_at hl 0 rfl) ?_
  rcases (show j = 0 ∨ j = 1 ∨ j = 2 ∨ (j < 0 ∨ 2 < j) by omega) with c1 | c2 | c3 | c4
  · refine lv_tableIn (off := 27) (tgt := 28) hx_ hb_ dX6_isInRange_1 (by rw [sI_toInt (by omega)]; omega) (by rw [sI_toInt (by omega)]; omega) (by rw [sI_toInt (by omega), c1]; decide) (by decide) ?_
    refine lv_iload_n hx_ hb_ dX6_isInRange_28 rfl (lv_at hl 1 rfl) ?_
    refine sz_lt (tgt := 42) S dX6_isInRange_29 (by decide) (by omega) (fun c5 => ?_) (fun c5 => ?_)
    · refine si_const S dX6_isInRange_42 ?_
      exact sr_z E hQ (Or.inl rfl) dX6_isInRange_43 ⟨Nat.le_of_ble_eq_true rfl, Nat.le_of_ble_eq_true rfl⟩ hV (⟨(bI_f (by unfold irP; omega)).symm, rfl, rfl⟩)
    · refine lv_iload_n hx_ hb_ dX6_isInRange_32 rfl (lv_at hl 1 rfl) ?_
      refine si_bipush S dX6_isInRange_33 (by decide) ?_
      refine sb_ge (tgt := 42) S dX6_isInRange_35 (by decide) (by omega) (fun c6 => ?_) (fun c6 => ?_)
      · refine si_const S dX6_isInRange_42 ?_
        exact sr_z E hQ (Or.inl rfl) dX6_isInRange_43 ⟨Nat.le_of_ble_eq_true rfl, Nat.le_of_ble_eq_true rfl⟩ hV (⟨(bI_f (by unfold irP; omega)).symm, rfl, rfl⟩)
      · refine si_const S dX6_isInRange_38 ?_
        refine lv_goto (tgt := 43) hx_ hb_ dX6_isInRange_39 (by decide) ?_
        exact sr_z E hQ (Or.inr rfl) dX6_isInRange_43 ⟨Nat.le_of_ble_eq_true rfl, Nat.le_of_ble_eq_true rfl⟩ hV (⟨(bI_t (by unfold irP; omega)).symm, rfl, rfl⟩)
  · refine lv_tableIn (off := 43) (tgt := 44) hx_ hb_ dX6_isInRange_1 (by rw [sI_toInt (by omega)]; omega) (by rw [sI_toInt (by omega)]; omega) (by rw [sI_toInt (by omega), c2]; decide) (by decide) ?_
    refine lv_iload_n hx_ hb_ dX6_isInRange_44 rfl (lv_at hl 1 rfl) ?_
    refine si_const S dX6_isInRange_45 ?_
    refine sb_lt (tgt := 59) S dX6_isInRange_46 (by decide) (by omega) (fun c7 => ?_) (fun c7 => ?_)
    · refine si_const S dX6_isInRange_59 ?_
      exact sr_z E hQ (Or.inl rfl) dX6_isInRange_60 ⟨Nat.le_of_ble_eq_true rfl, Nat.le_of_ble_eq_true rfl⟩ hV (⟨(bI_f (by unfold irP; omega)).symm, rfl, rfl⟩)
    · refine lv_iload_n hx_ hb_ dX6_isInRange_49 rfl (lv_at hl 1 rfl) ?_
      refine si_bipush S dX6_isInRange_50 (by decide) ?_
      refine sb_gt (tgt := 59) S dX6_isInRange_52 (by decide) (by omega) (fun c8 => ?_) (fun c8 => ?_)
      · refine si_const S dX6_isInRange_59 ?_
        exact sr_z E hQ (Or.inl rfl) dX6_isInRange_60 ⟨Nat.le_of_ble_eq_true rfl, Nat.le_of_ble_eq_true rfl⟩ hV (⟨(bI_f (by unfold irP; omega)).symm, rfl, rfl⟩)
      · refine si_const S dX6_isInRange_55 ?_
        refine lv_goto (tgt := 60) hx_ hb_ dX6_isInRange_56 (by decide) ?_
        exact sr_z E hQ (Or.inr rfl) dX6_isInRange_60 ⟨Nat.le_of_ble_eq_true rfl, Nat.le_of_ble_eq_true rfl⟩ hV (⟨(bI_t (by unfold irP; omega)).symm, rfl, rfl⟩)
  · refine lv_tableIn (off := 60) (tgt := 61) hx_ hb_ dX6_isInRange_1 (by rw [sI_toInt (by omega)]; omega) (by rw [sI_toInt (by omega)]; omega) (by rw [sI_toInt (by omega), c3]; decide) (by decide) ?_
    refine lv_iload_n hx_ hb_ dX6_isInRange_61 rfl (lv_at hl 1 rfl) ?_
    refine si_const S dX6_isInRange_62 ?_
    refine sb_lt (tgt := 76) S dX6_isInRange_63 (by decide) (by omega) (fun c9 => ?_) (fun c9 => ?_)
    · refine si_const S dX6_isInRange_76 ?_
      exact sr_z E hQ (Or.inl rfl) dX6_isInRange_77 ⟨Nat.le_of_ble_eq_true rfl, Nat.le_of_ble_eq_true rfl⟩ hV (⟨(bI_f (by unfold irP; omega)).symm, rfl, rfl⟩)
    · refine lv_iload_n hx_ hb_ dX6_isInRange_66 rfl (lv_at hl 1 rfl) ?_
      refine si_bipush S dX6_isInRange_67 (by decide) ?_
      refine sb_gt (tgt := 76) S dX6_isInRange_69 (by decide) (by omega) (fun c10 => ?_) (fun c10 => ?_)
      · refine si_const S dX6_isInRange_76 ?_
        exact sr_z E hQ (Or.inl rfl) dX6_isInRange_77 ⟨Nat.le_of_ble_eq_true rfl, Nat.le_of_ble_eq_true rfl⟩ hV (⟨(bI_f (by unfold irP; omega)).symm, rfl, rfl⟩)
      · refine si_const S dX6_isInRange_72 ?_
        refine lv_goto (tgt := 77) hx_ hb_ dX6_isInRange_73 (by decide) ?_
        exact sr_z E hQ (Or.inr rfl) dX6_isInRange_77 ⟨Nat.le_of_ble_eq_true rfl, Nat.le_of_ble_eq_true rfl⟩ hV (⟨(bI_t (by unfold irP; omega)).symm, rfl, rfl⟩)
  · refine lv_tableOut (tgt := 78) hx_ hb_ dX6_isInRange_1 (by rw [sI_toInt (by omega)]; omega) (by decide) ?_
    refine lv_iload_n hx_ hb_ dX6_isInRange_78 rfl (lv_at hl 1 rfl) ?_
    refine sz_lt (tgt := 93) S dX6_isInRange_79 (by decide) (by omega) (fun c11 => ?_) (fun c11 => ?_)
    · refine si_const S dX6_isInRange_93 ?_
      exact sr_z E hQ (Or.inl rfl) dX6_isInRange_94 ⟨Nat.le_of_ble_eq_true rfl, Nat.le_of_ble_eq_true rfl⟩ hV (⟨(bI_f (by unfold irP; omega)).symm, rfl, rfl⟩)
    · refine lv_iload_n hx_ hb_ dX6_isInRange_82 rfl (lv_at hl 1 rfl) ?_
      refine si_sipush S dX6_isInRange_83 (by decide) ?_
      refine sb_gt (tgt := 93) S dX6_isInRange_86 (by decide) (by omega) (fun c12 => ?_) (fun c12 => ?_)
      · refine si_const S dX6_isInRange_93 ?_
        exact sr_z E hQ (Or.inl rfl) dX6_isInRange_94 ⟨Nat.le_of_ble_eq_true rfl, Nat.le_of_ble_eq_true rfl⟩ hV (⟨(bI_f (by unfold irP; omega)).symm, rfl, rfl⟩)
      · refine si_const S dX6_isInRange_89 ?_
        refine lv_goto (tgt := 94) hx_ hb_ dX6_isInRange_90 (by decide) ?_
        exact sr_z E hQ (Or.inr rfl) dX6_isInRange_94 ⟨Nat.le_of_ble_eq_true rfl, Nat.le_of_ble_eq_true rfl⟩ hV (⟨(bI_t (by unfold irP; omega)).symm, rfl, rfl⟩)

abbrev rmX6_countIn : Room := { frames := 2, cells := 0, slots := 0, locals := 63 }
set_option maxHeartbeats 4000000 in
set_option maxRecDepth 100000 in
theorem kX6_countIn (l_ : Launch) (G : sG) (b_ : Nat) (M : sM) (N : Nat) (a : Nat) (f : sF) (d : Int) (hst : stC G M a f) (hok : sOk f) (hd : sR d) : cP l_ yX6_countIn wsX6_countIn rmX6_countIn G b_ M N [.ref a, .int (sI d)] (isum (f 568) (lyT f d 0)) := by
  refine sE.ofI (cc := cX6_countIn) (nL := 4) (ret := (some .int)) (by decide) rfl (Nat.le_of_ble_eq_true rfl) ?_
  intro p_ e_ s_ m_ args_ below_ meth_ c_ ls Q hQ E hl
  have E : sE p_ l_ e_ rmX6_countIn s_ m_ args_ below_ meth_ c_ cX6_countIn 4 wsX6_countIn RX6 "countIn" (some .int) G b_ M N := E
  have S := E.1
  have hx_ := S.1
  have hb_ := S.2.1
  have hK := E.2.2.2.2.1
  have hV := E.2.2.2.2.2.2
  have hl : lv_has ls 4 [(0, .ref a), (1, .int (sI d))] := hl
  have inX6_ : ∀ w ∈ wsX60, w ∈ wsX6_countIn := fun _ h => List.mem_cons_of_mem _ (List.mem_append_left _ (List.mem_append_right _ h))
  have inX8_ : ∀ w ∈ wsX80, w ∈ wsX6_countIn := fun _ h => List.mem_cons_of_mem _ (List.mem_append_right _ h)
  have kn0 := sOk_N hok
  refine si_const S dX6_countIn_0 ?_
  refine lv_istore_n (lv' := [(2, .int (sI 0)), (0, .ref a), (1, .int (sI d))]) hx_ hb_ dX6_countIn_1 rfl hl (by decide) rfl (fun ls hl => ?_)
  refine si_const S dX6_countIn_2 ?_
  refine lv_istore_n (lv' := [(3, .int (sI 0)), (2, .int (sI 0)), (0, .ref a), (1, .int (sI d))]) hx_ hb_ dX6_countIn_3 rfl hl (by decide) rfl (fun ls hl => ?_)
  have L4 : ∀ (fuel : Nat) (n : Int) (i : Int)  (H : Heap) (locs : List Loc) (ls : Array Slot), ((f 568 - i).toNat) < fuel → (0 ≤ i ∧ i ≤ f 568) → (n = isum i (lyT f d 0)) → sV G b_ M N s_ H locs → lv_has ls 4 [(0, .ref a), (1, .int (sI d)), (2, .int (sI n)), (3, .int (sI i))] → W p_ l_ e_ rmX6_countIn s_ m_ args_ below_ meth_ c_ H locs 0 0 Q (F0 m_ 4 ls []) := by
    intro fuel
    induction fuel with
    | zero => intro n i H locs ls hmu; exact absurd hmu (Nat.not_lt_zero _)
    | succ fuel ih4 =>
      intro n i H locs ls hmu4 hv4_0 hs  hV hl
      have b1 := ly_r hok d 0 i (by omega) (by omega)
      refine lv_iload_n hx_ hb_ dX6_countIn_4 rfl (lv_at hl 3 rfl) ?_
      refine lv_aload_n hx_ hb_ dX6_countIn_5 rfl (lv_at hl 0 rfl) ?_
      refine sc_get (ci := 4) (C := RX6) (T := TX6) (n := 8) S hK hV inX6_ (hst).1 rfl 0 (by decide) (S.2.2.2.2 _ (List.mem_of_getElem? (i := 1) rfl)) rfl rfl dX6_countIn_6 ?_
      refine sk_VP E hV (As := []) (rest := [.int (sI i)]) (kTs l_ G b_ M N (a + 1) 7 (f 568) 70 (tvS f) ((hst).2.1)) (cwV 0 S.2.2.2.2 gX6_countIn_X8_size rfl rfl rfl (by decide +kernel) ⟨Nat.le_of_ble_eq_true rfl, Nat.le_of_ble_eq_true rfl⟩) (ci := 6) ((hst).2.1).1 rfl rfl rfl hl.1 (Nat.le_of_ble_eq_true rfl) dX6_countIn_9 (c1 := 0) (s1 := 0) ⟨⟨rfl, rfl⟩, by decide, by decide⟩ (fun H locs hV => ?_)
      refine sb_ge (tgt := 37) S dX6_countIn_12 (by decide) (by omega) (fun c1 => ?_) (fun c1 => ?_)
      · refine lv_iload_n hx_ hb_ dX6_countIn_37 rfl (lv_at hl 2 rfl) ?_
        exact sr_i E hQ dX6_countIn_38 ⟨Nat.le_of_ble_eq_true rfl, Nat.le_of_ble_eq_true rfl⟩ hV (⟨by rw [hs, show i = f 568 by omega], rfl, rfl⟩)
      · refine lv_aload_n hx_ hb_ dX6_countIn_15 rfl (lv_at hl 0 rfl) ?_
        refine sc_get (ci := 4) (C := RX6) (T := TX6) (n := 8) S hK hV inX6_ (hst).1 rfl 0 (by decide) (S.2.2.2.2 _ (List.mem_of_getElem? (i := 1) rfl)) rfl rfl dX6_countIn_16 ?_
        refine lv_iload_n hx_ hb_ dX6_countIn_19 rfl (lv_at hl 3 rfl) ?_
        refine si_const S dX6_countIn_20 ?_
        refine sk_VP E hV (As := [.int (sI i), .int (sI 5)]) (rest := []) (kTg l_ G b_ M N (a + 1) 7 (f 568) 70 (tvS f) i 5 (f (50 + i)) ((hst).2.1) (by omega) (by omega) (tvS_5 f i)) (cwV 2 S.2.2.2.2 gX6_countIn_X8_get rfl rfl rfl (by decide +kernel) ⟨Nat.le_of_ble_eq_true rfl, Nat.le_of_ble_eq_true rfl⟩) (ci := 6) ((hst).2.1).1 rfl rfl rfl hl.1 (Nat.le_of_ble_eq_true rfl) dX6_countIn_21 (c1 := 0) (s1 := 0) ⟨⟨rfl, rfl⟩, by decide, by decide⟩ (fun H locs hV => ?_)
        have kn2 : -1 ≤ f (50 + i) ∧ f (50 + i) ≤ 3 := (sOk_S hok i (by omega) (by omega)).2.2.2.2.2.1
        refine lv_iload_n hx_ hb_ dX6_countIn_24 rfl (lv_at hl 1 rfl) ?_
        refine sb_ne (tgt := 31) S dX6_countIn_25 (by decide) (by omega) (fun c3 => ?_) (fun c3 => ?_)
        · refine si_inc (lv' := [(3, .int (sI (i + 1))), (0, .ref a), (1, .int (sI d)), (2, .int (sI n))]) S dX6_countIn_31 hl (k := 3) rfl (by decide) rfl (fun ls hl => ?_)
          refine lv_goto (tgt := 4) hx_ hb_ dX6_countIn_34 (by decide) ?_
          exact ih4 n (i + 1) _ _ _ (by omega) (by omega) (by have e := isum_s (lyT f d 0) (show 0 ≤ i by omega); have e2 := lyT_0 f d i; split at e2 <;> omega) hV (lv_sub hl [1, 2, 3, 0] rfl)
        · refine si_inc (lv' := [(2, .int (sI (n + 1))), (0, .ref a), (1, .int (sI d)), (3, .int (sI i))]) S dX6_countIn_28 hl (k := 2) rfl (by decide) rfl (fun ls hl => ?_)
          refine si_inc (lv' := [(3, .int (sI (i + 1))), (2, .int (sI (n + 1))), (0, .ref a), (1, .int (sI d))]) S dX6_countIn_31 hl (k := 3) rfl (by decide) rfl (fun ls hl => ?_)
          refine lv_goto (tgt := 4) hx_ hb_ dX6_countIn_34 (by decide) ?_
          exact ih4 (n + 1) (i + 1) _ _ _ (by omega) (by omega) (by have e := isum_s (lyT f d 0) (show 0 ≤ i by omega); have e2 := lyT_0 f d i; split at e2 <;> omega) hV (lv_sub hl [2, 3, 1, 0] rfl)
  exact L4 _ 0 0 _ _ _ (Nat.lt_succ_self _) (by omega) (rfl) hV (lv_sub hl [2, 3, 1, 0] rfl)

abbrev rmX6_sumIn : Room := { frames := 2, cells := 0, slots := 0, locals := 63 }
set_option maxHeartbeats 4000000 in
set_option maxRecDepth 100000 in
theorem kX6_sumIn (l_ : Launch) (G : sG) (b_ : Nat) (M : sM) (N : Nat) (a : Nat) (f : sF) (d j : Int) (hst : stC G M a f) (hok : sOk f) (hd : sR d) (hj : 1 ≤ j ∧ j ≤ 2) : cP l_ yX6_sumIn wsX6_sumIn rmX6_sumIn G b_ M N [.ref a, .int (sI d), .int (sI j)] (isum (f 568) (lyT f d j)) := by
  refine sE.ofI (cc := cX6_sumIn) (nL := 5) (ret := (some .int)) (by decide) rfl (Nat.le_of_ble_eq_true rfl) ?_
  intro p_ e_ s_ m_ args_ below_ meth_ c_ ls Q hQ E hl
  have E : sE p_ l_ e_ rmX6_sumIn s_ m_ args_ below_ meth_ c_ cX6_sumIn 5 wsX6_sumIn RX6 "sumIn" (some .int) G b_ M N := E
  have S := E.1
  have hx_ := S.1
  have hb_ := S.2.1
  have hK := E.2.2.2.2.1
  have hV := E.2.2.2.2.2.2
  have hl : lv_has ls 5 [(0, .ref a), (1, .int (sI d)), (2, .int (sI j))] := hl
  have inX6_ : ∀ w ∈ wsX60, w ∈ wsX6_sumIn := fun _ h => List.mem_cons_of_mem _ (List.mem_append_left _ (List.mem_append_right _ h))
  have inX8_ : ∀ w ∈ wsX80, w ∈ wsX6_sumIn := fun _ h => List.mem_cons_of_mem _ (List.mem_append_right _ h)
  have kn0 := sOk_N hok
  refine si_const S dX6_sumIn_0 ?_
  refine lv_istore_n (lv' := [(3, .int (sI 0)), (0, .ref a), (1, .int (sI d)), (2, .int (sI j))]) hx_ hb_ dX6_sumIn_1 rfl hl (by decide) rfl (fun ls hl => ?_)
  refine si_const S dX6_sumIn_2 ?_
  refine lv_istore (lv' := [(4, .int (sI 0)), (3, .int (sI 0)), (0, .ref a), (1, .int (sI d)), (2, .int (sI j))]) hx_ hb_ dX6_sumIn_3 hl (by decide) rfl (fun ls hl => ?_)
  have L5 : ∀ (fuel : Nat) (n : Int) (i : Int)  (H : Heap) (locs : List Loc) (ls : Array Slot), ((f 568 - i).toNat) < fuel → (0 ≤ i ∧ i ≤ f 568) → (n = isum i (lyT f d j)) → sV G b_ M N s_ H locs → lv_has ls 5 [(0, .ref a), (1, .int (sI d)), (2, .int (sI j)), (3, .int (sI n)), (4, .int (sI i))] → W p_ l_ e_ rmX6_sumIn s_ m_ args_ below_ meth_ c_ H locs 0 0 Q (F0 m_ 5 ls []) := by
    intro fuel
    induction fuel with
    | zero => intro n i H locs ls hmu; exact absurd hmu (Nat.not_lt_zero _)
    | succ fuel ih5 =>
      intro n i H locs ls hmu5 hv5_0 hs  hV hl
      have b1 := ly_r hok d j i (by omega) (by omega)
      refine lv_iload hx_ hb_ dX6_sumIn_5 (lv_at hl 4 rfl) ?_
      refine lv_aload_n hx_ hb_ dX6_sumIn_7 rfl (lv_at hl 0 rfl) ?_
      refine sc_get (ci := 4) (C := RX6) (T := TX6) (n := 8) S hK hV inX6_ (hst).1 rfl 0 (by decide) (S.2.2.2.2 _ (List.mem_of_getElem? (i := 1) rfl)) rfl rfl dX6_sumIn_8 ?_
      refine sk_VP E hV (As := []) (rest := [.int (sI i)]) (kTs l_ G b_ M N (a + 1) 7 (f 568) 70 (tvS f) ((hst).2.1)) (cwV 0 S.2.2.2.2 gX6_sumIn_X8_size rfl rfl rfl (by decide +kernel) ⟨Nat.le_of_ble_eq_true rfl, Nat.le_of_ble_eq_true rfl⟩) (ci := 6) ((hst).2.1).1 rfl rfl rfl hl.1 (Nat.le_of_ble_eq_true rfl) dX6_sumIn_11 (c1 := 0) (s1 := 0) ⟨⟨rfl, rfl⟩, by decide, by decide⟩ (fun H locs hV => ?_)
      refine sb_ge (tgt := 50) S dX6_sumIn_14 (by decide) (by omega) (fun c1 => ?_) (fun c1 => ?_)
      · refine lv_iload_n hx_ hb_ dX6_sumIn_50 rfl (lv_at hl 3 rfl) ?_
        exact sr_i E hQ dX6_sumIn_51 ⟨Nat.le_of_ble_eq_true rfl, Nat.le_of_ble_eq_true rfl⟩ hV (⟨by rw [hs, show i = f 568 by omega], rfl, rfl⟩)
      · refine lv_aload_n hx_ hb_ dX6_sumIn_17 rfl (lv_at hl 0 rfl) ?_
        refine sc_get (ci := 4) (C := RX6) (T := TX6) (n := 8) S hK hV inX6_ (hst).1 rfl 0 (by decide) (S.2.2.2.2 _ (List.mem_of_getElem? (i := 1) rfl)) rfl rfl dX6_sumIn_18 ?_
        refine lv_iload hx_ hb_ dX6_sumIn_21 (lv_at hl 4 rfl) ?_
        refine si_const S dX6_sumIn_23 ?_
        refine sk_VP E hV (As := [.int (sI i), .int (sI 5)]) (rest := []) (kTg l_ G b_ M N (a + 1) 7 (f 568) 70 (tvS f) i 5 (f (50 + i)) ((hst).2.1) (by omega) (by omega) (tvS_5 f i)) (cwV 2 S.2.2.2.2 gX6_sumIn_X8_get rfl rfl rfl (by decide +kernel) ⟨Nat.le_of_ble_eq_true rfl, Nat.le_of_ble_eq_true rfl⟩) (ci := 6) ((hst).2.1).1 rfl rfl rfl hl.1 (Nat.le_of_ble_eq_true rfl) dX6_sumIn_24 (c1 := 0) (s1 := 0) ⟨⟨rfl, rfl⟩, by decide, by decide⟩ (fun H locs hV => ?_)
        have kn2 : -1 ≤ f (50 + i) ∧ f (50 + i) ≤ 3 := (sOk_S hok i (by omega) (by omega)).2.2.2.2.2.1
        refine lv_iload_n hx_ hb_ dX6_sumIn_27 rfl (lv_at hl 1 rfl) ?_
        refine sb_ne (tgt := 44) S dX6_sumIn_28 (by decide) (by omega) (fun c3 => ?_) (fun c3 => ?_)
        · refine si_inc (lv' := [(4, .int (sI (i + 1))), (0, .ref a), (1, .int (sI d)), (2, .int (sI j)), (3, .int (sI n))]) S dX6_sumIn_44 hl (k := 4) rfl (by decide) rfl (fun ls hl => ?_)
          refine lv_goto (tgt := 5) hx_ hb_ dX6_sumIn_47 (by decide) ?_
          exact ih5 n (i + 1) _ _ _ (by omega) (by omega) (by have e := isum_s (lyT f d j) (show 0 ≤ i by omega); have e2 := lyT_v f d j i hj; split at e2 <;> omega) hV (lv_sub hl [1, 2, 3, 4, 0] rfl)
        · refine lv_iload_n hx_ hb_ dX6_sumIn_31 rfl (lv_at hl 3 rfl) ?_
          refine lv_aload_n hx_ hb_ dX6_sumIn_32 rfl (lv_at hl 0 rfl) ?_
          refine sc_get (ci := 4) (C := RX6) (T := TX6) (n := 8) S hK hV inX6_ (hst).1 rfl 0 (by decide) (S.2.2.2.2 _ (List.mem_of_getElem? (i := 1) rfl)) rfl rfl dX6_sumIn_33 ?_
          refine lv_iload hx_ hb_ dX6_sumIn_36 (lv_at hl 4 rfl) ?_
          refine lv_iload_n hx_ hb_ dX6_sumIn_38 rfl (lv_at hl 2 rfl) ?_
          refine sk_VP E hV (As := [.int (sI i), .int (sI j)]) (rest := [.int (sI n)]) (kTg l_ G b_ M N (a + 1) 7 (f 568) 70 (tvS f) i j (f (10 + 10 * j + i)) ((hst).2.1) (by omega) (by omega) (tvS_v f i j (by omega))) (cwV 2 S.2.2.2.2 gX6_sumIn_X8_get rfl rfl rfl (by decide +kernel) ⟨Nat.le_of_ble_eq_true rfl, Nat.le_of_ble_eq_true rfl⟩) (ci := 6) ((hst).2.1).1 rfl rfl rfl hl.1 (Nat.le_of_ble_eq_true rfl) dX6_sumIn_39 (c1 := 0) (s1 := 0) ⟨⟨rfl, rfl⟩, by decide, by decide⟩ (fun H locs hV => ?_)
          have kn4 := okS_v hok j i (by omega) (by omega) (by omega)
          refine si_add S dX6_sumIn_42 ?_
          refine lv_istore_n (lv' := [(3, .int (sI (n + (f (10 + 10 * j + i))))), (0, .ref a), (1, .int (sI d)), (2, .int (sI j)), (4, .int (sI i))]) hx_ hb_ dX6_sumIn_43 rfl hl (by decide) rfl (fun ls hl => ?_)
          refine si_inc (lv' := [(4, .int (sI (i + 1))), (3, .int (sI (n + (f (10 + 10 * j + i))))), (0, .ref a), (1, .int (sI d)), (2, .int (sI j))]) S dX6_sumIn_44 hl (k := 4) rfl (by decide) rfl (fun ls hl => ?_)
          refine lv_goto (tgt := 5) hx_ hb_ dX6_sumIn_47 (by decide) ?_
          exact ih5 (n + (f (10 + 10 * j + i))) (i + 1) _ _ _ (by omega) (by omega) (by have e := isum_s (lyT f d j) (show 0 ≤ i by omega); have e2 := lyT_v f d j i hj; split at e2 <;> omega) hV (lv_sub hl [2, 3, 4, 1, 0] rfl)
  exact L5 _ 0 0 _ _ _ (Nat.lt_succ_self _) (by omega) (rfl) hV (lv_sub hl [2, 3, 4, 1, 0] rfl)
