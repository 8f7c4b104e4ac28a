/-! The class, further on. -/
abbrev rmX10_takeBack : Room := { frames := 6, cells := 25, slots := 3000, locals := 125 }
set_option maxHeartbeats 4000000 in
set_option maxRecDepth 100000 in
theorem kX10_takeBack (l_ : Launch) (G : sG) (b_ : Nat) (M : sM) (N : Nat) (c : Nat) (kn ch : Int) (f : sF) (kb : Nat) (fs : Int → sF) (a0 : Int) (hc0 : M c = some (xO c kn ch)) (hst : stC G M (c + 1) f) (hkp : kpC G M (c + 31) kb kn ch fs) (hlt : l_.stackTraces = false) (hok : sOk f) (hkb : c + 60 ≤ kb) (hkN : kb ≤ N) (hr : sR a0) : xcI l_ yX10_takeBack wsX10_takeBack rmX10_takeBack G b_ M N [.ref c, .int (sI a0)] (fun z_ M1 N1 => ∃ kn1 : Int, N ≤ N1 ∧ (∀ x : Nat, ¬ (x = c) → ¬ (x = c + 31) → ¬ (kb ≤ x) → ¬ (c + 1 ≤ x ∧ x < c + 1 + 15) → M1 x = M x) ∧ ((((0 ≤ a0 ∧ a0 < f 570) ∧ f (404 + a0) = 0) ∧ z_ = f 571 + 1 ∧ M1 c = some (xO c kn1 (chn ch)) ∧ stC G M1 (c + 1) (tbF f a0) ∧ kpC G M1 (c + 31) kb kn1 (chn ch) (fsn ch fs f)))) (fun E_ M1 N1 => ∃ kn1 : Int, N ≤ N1 ∧ (∀ x : Nat, ¬ (x = c) → ¬ (x = c + 31) → ¬ (kb ≤ x) → ¬ (c + 1 ≤ x ∧ x < c + 1 + 15) → M1 x = M x) ∧ (((¬ (0 ≤ a0 ∧ a0 < f 570)) ∧ E_ = "java/lang/IndexOutOfBoundsException" ∧ M1 c = some (xO c kn1 ch) ∧ stC G M1 (c + 1) f ∧ kpC G M1 (c + 31) kb kn1 ch fs) ∨ (((0 ≤ a0 ∧ a0 < f 570) ∧ f (404 + a0) ≠ 0) ∧ E_ = "java/lang/IllegalStateException" ∧ M1 c = some (xO c kn1 ch) ∧ stC G M1 (c + 1) f ∧ kpC G M1 (c + 31) kb kn1 ch fs))) := by
  refine xcE.ofI (cc := cX10_takeBack) (nL := 2) (ret := (some .int)) (by decide) rfl (Nat.le_of_ble_eq_true rfl) ?_
  intro p_ e_ s_ m_ args_ below_ meth_ c_ ls Q hQ E hF_ hxt_ hl
  have E : sE p_ l_ e_ rmX10_takeBack s_ m_ args_ below_ meth_ c_ cX10_takeBack 2 wsX10_takeBack RX10 "takeBack" (some .int) G b_ M N := E
  have S := E.1
  have hx_ := S.1
  have hb_ := S.2.1
  have hK := E.2.2.2.2.1
  have hV := E.2.2.2.2.2.2
  have hl : lv_has ls 2 [(0, .ref c), (1, .int (sI a0))] := hl
  have inX10_ : ∀ w ∈ wsX100, w ∈ wsX10_takeBack := fun _ h => List.mem_cons_of_mem _ (List.mem_append_left _ (List.mem_append_left _ (List.mem_append_left _ (List.mem_append_left _ (List.mem_append_right _ h)))))
  have inX6_ : ∀ w ∈ wsX60, w ∈ wsX10_takeBack := fun _ h => List.mem_cons_of_mem _ (List.mem_append_left _ (List.mem_append_left _ (List.mem_append_left _ (List.mem_append_right _ h))))
  have inX8_ : ∀ w ∈ wsX80, w ∈ wsX10_takeBack := fun _ h => List.mem_cons_of_mem _ (List.mem_append_left _ (List.mem_append_left _ (List.mem_append_right _ h)))
  have hbN : b_ ≤ N := by have h1 := hV.1.1; have h2 := hV.2.2; omega
  have kn0 := sOk_N hok
  refine lv_aload_n hx_ hb_ dX10_takeBack_0 rfl (lv_at hl 0 rfl) ?_
  refine sc_get (ci := 8) (C := RX10) (T := TX10) (n := 11) S hK hV inX10_ hc0 rfl 0 (by decide) (S.2.2.2.2 _ (List.mem_of_getElem? (i := 5) rfl)) rfl rfl dX10_takeBack_1 ?_
  refine sc_getN (ci := 4) (C := RX6) (T := TX6) (n := 8) S hK hV inX6_ (hst).1 rfl 4 (by decide) (E.2.2.2.2.2.1.1.2.1 _ (List.mem_of_getElem? (i := 10) rfl)) rfl rfl dX10_takeBack_4 ?_
  refine lv_iload_n hx_ hb_ dX10_takeBack_7 rfl (lv_at hl 1 rfl) ?_
  refine sk_VP E hV (As := [.int (sI a0)]) (rest := []) (kTh l_ G b_ M N (c + 10) 5 (f 570) 300 (tvT f) a0 ((hst).2.2.2.2.2.1) (by omega)) (cwV 1 S.2.2.2.2 gX10_takeBack_X8_has rfl rfl rfl (by decide +kernel) ⟨Nat.le_of_ble_eq_true rfl, Nat.le_of_ble_eq_true rfl⟩) (ci := 6) ((hst).2.2.2.2.2.1).1 rfl rfl rfl hl.1 (Nat.le_of_ble_eq_true rfl) dX10_takeBack_8 (c1 := 0) (s1 := 0) ⟨⟨rfl, rfl⟩, by decide, by decide⟩ (fun H locs hV => ?_)
  refine sq_ne (tgt := 25) S dX10_takeBack_11 (by decide) (fun c1 => ?_) (fun c1 => ?_)
  · refine lv_aload_n hx_ hb_ dX10_takeBack_25 rfl (lv_at hl 0 rfl) ?_
    refine sc_get (ci := 8) (C := RX10) (T := TX10) (n := 11) S hK hV inX10_ hc0 rfl 0 (by decide) (S.2.2.2.2 _ (List.mem_of_getElem? (i := 5) rfl)) rfl rfl dX10_takeBack_26 ?_
    refine sc_getN (ci := 4) (C := RX6) (T := TX6) (n := 8) S hK hV inX6_ (hst).1 rfl 4 (by decide) (E.2.2.2.2.2.1.1.2.1 _ (List.mem_of_getElem? (i := 10) rfl)) rfl rfl dX10_takeBack_29 ?_
    refine lv_iload_n hx_ hb_ dX10_takeBack_32 rfl (lv_at hl 1 rfl) ?_
    refine si_const S dX10_takeBack_33 ?_
    refine sk_VP E hV (As := [.int (sI a0), .int (sI 4)]) (rest := []) (kTg l_ G b_ M N (c + 10) 5 (f 570) 300 (tvT f) a0 4 (takn (f (404 + a0))) ((hst).2.2.2.2.2.1) (by omega) (by omega) (tvT_4 f a0)) (cwV 2 S.2.2.2.2 gX10_takeBack_X8_get rfl rfl rfl (by decide +kernel) ⟨Nat.le_of_ble_eq_true rfl, Nat.le_of_ble_eq_true rfl⟩) (ci := 6) ((hst).2.2.2.2.2.1).1 rfl rfl rfl hl.1 (Nat.le_of_ble_eq_true rfl) dX10_takeBack_34 (c1 := 0) (s1 := 0) ⟨⟨rfl, rfl⟩, by decide, by decide⟩ (fun H locs hV => ?_)
    have hT9 := sOk_T hok a0 (by omega) (by omega)
    have htk := takn_c (t := f (404 + a0)) (by omega)
    refine si_const S dX10_takeBack_37 ?_
    refine sb_eq (tgt := 52) S dX10_takeBack_38 (by decide) (by omega) (fun c2 => ?_) (fun c2 => ?_)
    · refine lv_aload_n hx_ hb_ dX10_takeBack_52 rfl (lv_at hl 0 rfl) ?_
      refine sk_Vv E hV (As := []) (rest := []) (kX10_keepState l_ G b_ M N c kn ch f kb fs hc0 hst hkp (by omega) (by omega) (by omega)) (cwV 0 S.2.2.2.2 gX10_takeBack_X10_keepState rfl rfl rfl (by decide +kernel) ⟨Nat.le_of_ble_eq_true rfl, Nat.le_of_ble_eq_true rfl⟩) (ci := 8) hc0 rfl rfl rfl hl.1 (Nat.le_of_ble_eq_true rfl) dX10_takeBack_53 (c1 := 15) (s1 := 2900) ⟨⟨rfl, rfl⟩, by decide, by decide⟩ (fun M3 N4 H locs hp5 hV => ?_)
      obtain ⟨kn17, hN8, hc9, hc10, hf11⟩ := hp5
      have hc12 : stC G M3 (c + 1) f := hst.fr (fun x q8 q9 => hf11 x (by omega) (by omega) (by omega))
      have hx13 : M3 (c + 1) = some (sObj 4 [.ref (c + 2), .ref (c + 4), .ref (c + 6), .ref (c + 8), .ref (c + 10), .ref (c + 12), .ref (c + 14), .int (sI (f 571))]) := (hc12).1
      have hx14 : stK G M3 (c + 2) 7 (f 568) 70 (tvS f) := (hc12).2.1
      have hx15 : stK G M3 (c + 4) 2 (f 569) 80 (tvC f) := (hc12).2.2.1
      have hx16 : stK G M3 (c + 6) 2 4 8 (tvD f) := (hc12).2.2.2.1
      have hx17 : stK G M3 (c + 8) 6 6 36 (tvP f) := (hc12).2.2.2.2.1
      have hx18 : stK G M3 (c + 10) 5 (f 570) 300 (tvT f) := (hc12).2.2.2.2.2.1
      have hx19 : stK G M3 (c + 12) 4 (f 572) 80 (tvW f) := (hc12).2.2.2.2.2.2.1
      have hx20 : stK G M3 (c + 14) 3 (f 573) 24 (tvO f) := (hc12).2.2.2.2.2.2.2
      refine lv_aload_n hx_ hb_ dX10_takeBack_56 rfl (lv_at hl 0 rfl) ?_
      refine sc_get (ci := 8) (C := RX10) (T := TX10) (n := 11) S hK hV inX10_ hc9 rfl 0 (by decide) (S.2.2.2.2 _ (List.mem_of_getElem? (i := 5) rfl)) rfl rfl dX10_takeBack_57 ?_
      refine lv_dup hx_ hb_ dX10_takeBack_60 rfl ?_
      refine sc_getN (ci := 4) (C := RX6) (T := TX6) (n := 8) S hK hV inX6_ hx13 rfl 7 (by decide) (E.2.2.2.2.2.1.1.2.1 _ (List.mem_of_getElem? (i := 14) rfl)) rfl rfl dX10_takeBack_61 ?_
      refine si_const S dX10_takeBack_64 ?_
      refine si_add S dX10_takeBack_65 ?_
      refine sc_putN (ci := 4) (C := RX6) (T := TX6) (n := 8) S hK hV inX6_ tyX6_ok nmX6 hx13 rfl 7 (by decide) (E.2.2.2.2.2.1.1.2.1 _ (List.mem_of_getElem? (i := 14) rfl)) rfl rfl rfl rfl (Nat.le_of_ble_eq_true rfl) dX10_takeBack_66 (fs1 := [.ref (c + 2), .ref (c + 4), .ref (c + 6), .ref (c + 8), .ref (c + 10), .ref (c + 12), .ref (c + 14), .int (sI ((f 571) + 1))]) rfl (fun M21 H locs hM21 hV => ?_)
      have hc22 : M21 (c + 1) = some (sObj 4 [.ref (c + 2), .ref (c + 4), .ref (c + 6), .ref (c + 8), .ref (c + 10), .ref (c + 12), .ref (c + 14), .int (sI ((f 571) + 1))]) := (congrFun hM21 (c + 1)).trans (va_up_self M3 (c + 1) _)
      refine lv_aload_n hx_ hb_ dX10_takeBack_69 rfl (lv_at hl 0 rfl) ?_
      have hc23 : M21 c = some (xO c kn17 (chn ch)) := ((congrFun hM21 c).trans (va_up_ne M3 _ (by omega))).trans hc9
      refine sc_get (ci := 8) (C := RX10) (T := TX10) (n := 11) S hK hV inX10_ hc23 rfl 0 (by decide) (S.2.2.2.2 _ (List.mem_of_getElem? (i := 5) rfl)) rfl rfl dX10_takeBack_70 ?_
      refine sc_getN (ci := 4) (C := RX6) (T := TX6) (n := 8) S hK hV inX6_ hc22 rfl 4 (by decide) (E.2.2.2.2.2.1.1.2.1 _ (List.mem_of_getElem? (i := 10) rfl)) rfl rfl dX10_takeBack_73 ?_
      refine lv_iload_n hx_ hb_ dX10_takeBack_76 rfl (lv_at hl 1 rfl) ?_
      refine si_const S dX10_takeBack_77 ?_
      refine lv_aload_n hx_ hb_ dX10_takeBack_78 rfl (lv_at hl 0 rfl) ?_
      refine sc_get (ci := 8) (C := RX10) (T := TX10) (n := 11) S hK hV inX10_ hc23 rfl 0 (by decide) (S.2.2.2.2 _ (List.mem_of_getElem? (i := 5) rfl)) rfl rfl dX10_takeBack_79 ?_
      refine sc_getN (ci := 4) (C := RX6) (T := TX6) (n := 8) S hK hV inX6_ hc22 rfl 7 (by decide) (E.2.2.2.2.2.1.1.2.1 _ (List.mem_of_getElem? (i := 14) rfl)) rfl rfl dX10_takeBack_82 ?_
      have hc24 : stK G M21 (c + 10) 5 (f 570) 300 (tvT f) := hx18.fr (fun x q8 q9 => (congrFun hM21 x).trans (va_up_ne M3 _ (by omega)))
      refine sk_Vv E hV (As := [.int (sI a0), .int (sI 4), .int (sI ((f 571) + 1))]) (rest := []) (kTw l_ G b_ M21 N4 (c + 10) 5 (f 570) 300 (tvT f) a0 4 ((f 571) + 1) hc24 (by omega) (by omega)) (cwV 3 S.2.2.2.2 gX10_takeBack_X8_set rfl rfl rfl (by decide +kernel) ⟨Nat.le_of_ble_eq_true rfl, Nat.le_of_ble_eq_true rfl⟩) (ci := 6) (hc24).1 rfl rfl rfl hl.1 (Nat.le_of_ble_eq_true rfl) dX10_takeBack_85 (c1 := 15) (s1 := 2900) ⟨⟨rfl, rfl⟩, by decide, by decide⟩ (fun M25 N26 H locs hp27 hV => ?_)
      obtain ⟨hN29, hc30, hf31⟩ := hp27
      rw [hN29] at hV
      refine lv_aload_n hx_ hb_ dX10_takeBack_88 rfl (lv_at hl 0 rfl) ?_
      have hc32 : M25 c = some (xO c kn17 (chn ch)) := (hf31 c (by omega)).trans hc23
      refine sc_get (ci := 8) (C := RX10) (T := TX10) (n := 11) S hK hV inX10_ hc32 rfl 0 (by decide) (S.2.2.2.2 _ (List.mem_of_getElem? (i := 5) rfl)) rfl rfl dX10_takeBack_89 ?_
      have hc33 : M25 (c + 1) = some (sObj 4 [.ref (c + 2), .ref (c + 4), .ref (c + 6), .ref (c + 8), .ref (c + 10), .ref (c + 12), .ref (c + 14), .int (sI ((f 571) + 1))]) := (hf31 (c + 1) (by omega)).trans hc22
      refine sc_getN (ci := 4) (C := RX6) (T := TX6) (n := 8) S hK hV inX6_ hc33 rfl 7 (by decide) (E.2.2.2.2.2.1.1.2.1 _ (List.mem_of_getElem? (i := 14) rfl)) rfl rfl dX10_takeBack_92 ?_
      have hc34 : stK G M25 (c + 2) 7 (f 568) 70 (tvS f) := hx14.fr (fun x q8 q9 => (hf31 x (by omega)).trans ((congrFun hM21 x).trans (va_up_ne M3 _ (by omega))))
      have hc35 : stK G M25 (c + 4) 2 (f 569) 80 (tvC f) := hx15.fr (fun x q8 q9 => (hf31 x (by omega)).trans ((congrFun hM21 x).trans (va_up_ne M3 _ (by omega))))
      have hc36 : stK G M25 (c + 6) 2 4 8 (tvD f) := hx16.fr (fun x q8 q9 => (hf31 x (by omega)).trans ((congrFun hM21 x).trans (va_up_ne M3 _ (by omega))))
      have hc37 : stK G M25 (c + 8) 6 6 36 (tvP f) := hx17.fr (fun x q8 q9 => (hf31 x (by omega)).trans ((congrFun hM21 x).trans (va_up_ne M3 _ (by omega))))
      have hc38 : stK G M25 (c + 12) 4 (f 572) 80 (tvW f) := hx19.fr (fun x q8 q9 => (hf31 x (by omega)).trans ((congrFun hM21 x).trans (va_up_ne M3 _ (by omega))))
      have hc39 : stK G M25 (c + 14) 3 (f 573) 24 (tvO f) := hx20.fr (fun x q8 q9 => (hf31 x (by omega)).trans ((congrFun hM21 x).trans (va_up_ne M3 _ (by omega))))
      have hc40 : kpC G M25 (c + 31) kb kn17 (chn ch) (fsn ch fs f) := hc10.fr (fun x q8 => (hf31 x (by omega)).trans ((congrFun hM21 x).trans (va_up_ne M3 _ (by omega))))
      exact xr_i E hQ dX10_takeBack_95 ⟨Nat.le_of_ble_eq_true rfl, Nat.le_of_ble_eq_true rfl⟩ hV (⟨_, by omega, fun x q0 q1 q2 q3 => ((hf31 x (by omega)).trans ((congrFun hM21 x).trans (va_up_ne M3 _ (by omega)))).trans (hf11 x (by omega) (by omega) (by omega)), ⟨(by omega), rfl, hc32, stC_u9 kn0 (by rw [show (tbF f a0) 571 = f 571 + 1 from by unfold tbF iup; (repeat (first | rw [if_pos (by omega)] | rw [if_neg (by omega)]))]; exact hc33) hc34 hc35 hc36 hc37 (by rw [show (tbF f a0) 570 = f 570 from by unfold tbF iup; (repeat (first | rw [if_pos (by omega)] | rw [if_neg (by omega)]))]; exact hc30.c (fun i j q1 q2 q3 q4 => tbF_t (by omega) (by omega) i j (by omega) (by omega))) hc38 hc39 (fun q w1 w2 w3 w4 w5 => by unfold tbF iup; (repeat (first | rw [if_pos (by omega)] | rw [if_neg (by omega)]))), hc40⟩⟩)
    · exact xt_W (own := RX10) (rest := []) E hF_ hxt_ hQ hlt (ik := 80) (is := 260) (ic := 84) (cls := "java/lang/IllegalStateException") (text := "it was taken back") (by decide +kernel) xg_IS (List.mem_of_getElem? (i := 3) rfl) (List.mem_of_getElem? (i := 4) rfl) (fun _ h => List.mem_cons_of_mem _ (List.mem_append_right _ h)) (List.mem_of_getElem? (i := 15) rfl) hl.1 dX10_takeBack_41 dX10_takeBack_44 dX10_takeBack_45 dX10_takeBack_48 dX10_takeBack_51 ⟨Nat.le_of_ble_eq_true rfl, Nat.le_of_ble_eq_true rfl, Nat.le_of_ble_eq_true rfl, Nat.le_of_ble_eq_true rfl⟩ ⟨Nat.le_of_ble_eq_true rfl, Nat.le_of_ble_eq_true rfl⟩ hV (fun N9 h9 => ⟨_, by omega, fun x q0 q1 q2 q3 => rfl, Or.inr (⟨(by first | omega | assumption), rfl, hc0, hst, hkp⟩)⟩)
  · exact xt_W (own := RX10) (rest := []) E hF_ hxt_ hQ hlt (ik := 173) (is := 258) (ic := 177) (cls := "java/lang/IndexOutOfBoundsException") (text := "nothing such was told") (by decide +kernel) xg_IO (List.mem_of_getElem? (i := 1) rfl) (List.mem_of_getElem? (i := 2) rfl) (fun _ h => List.mem_cons_of_mem _ (List.mem_append_left _ (List.mem_append_right _ h))) (List.mem_of_getElem? (i := 14) rfl) hl.1 dX10_takeBack_14 dX10_takeBack_17 dX10_takeBack_18 dX10_takeBack_21 dX10_takeBack_24 ⟨Nat.le_of_ble_eq_true rfl, Nat.le_of_ble_eq_true rfl, Nat.le_of_ble_eq_true rfl, Nat.le_of_ble_eq_true rfl⟩ ⟨Nat.le_of_ble_eq_true rfl, Nat.le_of_ble_eq_true rfl⟩ hV (fun N9 h9 => ⟨_, by omega, fun x q0 q1 q2 q3 => rfl, Or.inl ⟨(by first | omega | assumption), rfl, hc0, hst, hkp⟩⟩)

abbrev rmX10_setLight : Room := { frames := 7, cells := 25, slots := 3000, locals := 178 }
set_option maxHeartbeats 4000000 in
set_option maxRecDepth 100000 in
theorem kX10_setLight (l_ : Launch) (G : sG) (b_ : Nat) (M : sM) (N : Nat) (c : Nat) (kn ch : Int) (f : sF) (kb : Nat) (fs : Int → sF) (s l : Int) (hc0 : M c = some (xO c kn ch)) (hst : stC G M (c + 1) f) (hkp : kpC G M (c + 31) kb kn ch fs) (hlt : l_.stackTraces = false) (hok : sOk f) (hkb : c + 60 ≤ kb) (hkN : kb ≤ N) (hr : sR s ∧ sR l) : xcI l_ yX10_setLight wsX10_setLight rmX10_setLight G b_ M N [.ref c, .int (sI s), .int (sI l)] (fun z_ M1 N1 => ∃ kn1 : Int, N ≤ N1 ∧ (∀ x : Nat, ¬ (x = c) → ¬ (x = c + 31) → ¬ (kb ≤ x) → ¬ (c + 1 ≤ x ∧ x < c + 1 + 15) → M1 x = M x) ∧ ((((0 ≤ s ∧ s < f 568) ∧ (0 ≤ l ∧ l ≤ 100000) ∧ ∀ y, 1900 ≤ y → y < 2200 → liI f s y ≤ l) ∧ z_ = f (60 + s) ∧ M1 c = some (xO c kn1 (chn ch)) ∧ stC G M1 (c + 1) (slF f s l) ∧ kpC G M1 (c + 31) kb kn1 (chn ch) (fsn ch fs f)))) (fun E_ M1 N1 => ∃ kn1 : Int, N ≤ N1 ∧ (∀ x : Nat, ¬ (x = c) → ¬ (x = c + 31) → ¬ (kb ≤ x) → ¬ (c + 1 ≤ x ∧ x < c + 1 + 15) → M1 x = M x) ∧ (((¬ (0 ≤ s ∧ s < f 568)) ∧ E_ = "java/lang/IndexOutOfBoundsException" ∧ M1 c = some (xO c kn1 ch) ∧ stC G M1 (c + 1) f ∧ kpC G M1 (c + 31) kb kn1 ch fs) ∨ (((0 ≤ s ∧ s < f 568) ∧ ¬ (0 ≤ l ∧ l ≤ 100000)) ∧ E_ = "java/lang/IllegalArgumentException" ∧ M1 c = some (xO c kn1 ch) ∧ stC G M1 (c + 1) f ∧ kpC G M1 (c + 31) kb kn1 ch fs) ∨ (((0 ≤ s ∧ s < f 568) ∧ (0 ≤ l ∧ l ≤ 100000) ∧ ¬ ∀ y, 1900 ≤ y → y < 2200 → liI f s y ≤ l) ∧ E_ = "java/lang/IllegalStateException" ∧ M1 c = some (xO c kn1 ch) ∧ stC G M1 (c + 1) f ∧ kpC G M1 (c + 31) kb kn1 ch fs))) := by
  refine xcE.ofI (cc := cX10_setLight) (nL := 4) (ret := (some .int)) (by decide) rfl (Nat.le_of_ble_eq_true rfl) ?_
  intro p_ e_ s_ m_ args_ below_ meth_ c_ ls Q hQ E hF_ hxt_ hl
  have E : sE p_ l_ e_ rmX10_setLight s_ m_ args_ below_ meth_ c_ cX10_setLight 4 wsX10_setLight RX10 "setLight" (some .int) G b_ M N := E
  have S := E.1
  have hx_ := S.1
  have hb_ := S.2.1
  have hK := E.2.2.2.2.1
  have hV := E.2.2.2.2.2.2
  have hl : lv_has ls 4 [(0, .ref c), (1, .int (sI s)), (2, .int (sI l))] := hl
  have inX10_ : ∀ w ∈ wsX100, w ∈ wsX10_setLight := fun _ h => List.mem_cons_of_mem _ (List.mem_append_left _ (List.mem_append_left _ (List.mem_append_left _ (List.mem_append_left _ (List.mem_append_left _ (List.mem_append_right _ h))))))
  have inX6_ : ∀ w ∈ wsX60, w ∈ wsX10_setLight := fun _ h => List.mem_cons_of_mem _ (List.mem_append_left _ (List.mem_append_left _ (List.mem_append_left _ (List.mem_append_left _ (List.mem_append_right _ h)))))
  have inX8_ : ∀ w ∈ wsX80, w ∈ wsX10_setLight := fun _ h => List.mem_cons_of_mem _ (List.mem_append_left _ (List.mem_append_left _ (List.mem_append_left _ (List.mem_append_right _ h))))
  have hbN : b_ ≤ N := by have h1 := hV.1.1; have h2 := hV.2.2; omega
  have kn0 := sOk_N hok
  refine lv_aload_n hx_ hb_ dX10_setLight_0 rfl (lv_at hl 0 rfl) ?_
  refine lv_iload_n hx_ hb_ dX10_setLight_1 rfl (lv_at hl 1 rfl) ?_
  refine xk_Vv E hF_ hxt_ hQ hV (As := [.int (sI s)]) (rest := []) (kX10_needStone l_ G b_ M N c kn ch f s hc0 hst (by omega) (by omega) (by omega)) (cwV 1 S.2.2.2.2 gX10_setLight_X10_needStone rfl rfl rfl (by decide +kernel) ⟨Nat.le_of_ble_eq_true rfl, Nat.le_of_ble_eq_true rfl⟩) (ci := 8) hc0 rfl rfl rfl hl.1 (Nat.le_of_ble_eq_true rfl) dX10_setLight_2 (c1 := 1) (s1 := 6) ⟨⟨rfl, rfl⟩, by decide, by decide⟩ ⟨Nat.le_of_ble_eq_true rfl, Nat.le_of_ble_eq_true rfl⟩ ?_ (fun M1 N2 H locs hp3 hV => ?_)
  · rintro E9 M9 N9 ⟨hN5, hf6, hq7⟩
    rcases hq7 with ⟨c8, ee9⟩
    · have hc10 : M9 c = some (xO c kn ch) := (hf6 c ).trans hc0
      have hc11 : stC G M9 (c + 1) f := hst.fr (fun x q8 q9 => hf6 x )
      have hc12 : kpC G M9 (c + 31) kb kn ch fs := hkp.fr (fun x q8 => hf6 x )
      exact ⟨_, by omega, fun x q0 q1 q2 q3 => hf6 x , Or.inl ⟨(by first | exact c8 | omega), ee9, hc10, hc11, hc12⟩⟩
  obtain ⟨hN13, hf14, hq15⟩ := hp3
  rw [hN13] at hV
  rcases hq15 with c16
  · refine lv_iload_n hx_ hb_ dX10_setLight_5 rfl (lv_at hl 2 rfl) ?_
    refine si_const S dX10_setLight_6 ?_
    refine si_ldc_w S (100000) (S.2.2.2.2 _ (List.mem_of_getElem? (i := 3) rfl)) (by decide) dX10_setLight_7 ?_
    refine xk_Sv E hF_ hxt_ hQ hV (As := [.int (sI l), .int (sI 0), .int (sI 100000)]) (rest := []) (kX10_needRange l_ G b_ M1 N l 0 100000 (by omega) (by omega)) (va_cwS 3 S.2.2.2.2 gX10_setLight_X10_needRange rfl rfl rfl (by decide +kernel) ⟨Nat.le_of_ble_eq_true rfl, Nat.le_of_ble_eq_true rfl⟩) rfl rfl hl.1 (Nat.le_of_ble_eq_true rfl) dX10_setLight_10 (c1 := 2) (s1 := 12) ⟨⟨rfl, rfl⟩, by decide, by decide⟩ ⟨Nat.le_of_ble_eq_true rfl, Nat.le_of_ble_eq_true rfl⟩ ?_ (fun M17 N18 H locs hp19 hV => ?_)
    · rintro E9 M9 N9 ⟨hN21, hf22, hq23⟩
      rcases hq23 with ⟨c24, ee25⟩
      · have hc26 : M9 c = some (xO c kn ch) := ((hf22 c ).trans (hf14 c )).trans hc0
        have hc27 : stC G M9 (c + 1) f := hst.fr (fun x q8 q9 => (hf22 x ).trans (hf14 x ))
        have hc28 : kpC G M9 (c + 31) kb kn ch fs := hkp.fr (fun x q8 => (hf22 x ).trans (hf14 x ))
        exact ⟨_, by omega, fun x q0 q1 q2 q3 => (hf22 x ).trans (hf14 x ), Or.inr (Or.inl ⟨(by first | exact c24 | omega), ee25, hc26, hc27, hc28⟩)⟩
    obtain ⟨hN29, hf30, hq31⟩ := hp19
    rw [hN29] at hV
    rcases hq31 with c32
    · refine lv_aload_n hx_ hb_ dX10_setLight_13 rfl (lv_at hl 0 rfl) ?_
      have hc33 : M17 c = some (xO c kn ch) := ((hf30 c ).trans (hf14 c )).trans hc0
      refine sc_get (ci := 8) (C := RX10) (T := TX10) (n := 11) S hK hV inX10_ hc33 rfl 0 (by decide) (S.2.2.2.2 _ (List.mem_of_getElem? (i := 4) rfl)) rfl rfl dX10_setLight_14 ?_
      refine lv_iload_n hx_ hb_ dX10_setLight_17 rfl (lv_at hl 1 rfl) ?_
      refine lv_iload_n hx_ hb_ dX10_setLight_18 rfl (lv_at hl 2 rfl) ?_
      have hc34 : stC G M17 (c + 1) f := hst.fr (fun x q8 q9 => (hf30 x ).trans (hf14 x ))
      refine sk_SP E hV (As := [.ref (c + 1), .int (sI s), .int (sI l)]) (rest := []) (kX4_isOver l_ G b_ M17 N (c + 1) f s l hc34 (by omega) (by omega)) (va_cwS 3 S.2.2.2.2 gX10_setLight_X4_isOver rfl rfl rfl (by decide +kernel) ⟨Nat.le_of_ble_eq_true rfl, Nat.le_of_ble_eq_true rfl⟩) rfl rfl hl.1 (Nat.le_of_ble_eq_true rfl) dX10_setLight_19 (c1 := 2) (s1 := 12) ⟨⟨rfl, rfl⟩, by decide, by decide⟩ (fun H locs hV => ?_)
      refine sq_eq (tgt := 36) S dX10_setLight_22 (by decide) (fun ho9 => ?_) (fun ho9 => ?_)
      · refine lv_aload_n hx_ hb_ dX10_setLight_36 rfl (lv_at hl 0 rfl) ?_
        have hc35 : kpC G M17 (c + 31) kb kn ch fs := hkp.fr (fun x q8 => (hf30 x ).trans (hf14 x ))
        refine sk_Vv E hV (As := []) (rest := []) (kX10_keepState l_ G b_ M17 N c kn ch f kb fs hc33 hc34 hc35 (by omega) (by omega) (by omega)) (cwV 0 S.2.2.2.2 gX10_setLight_X10_keepState rfl rfl rfl (by decide +kernel) ⟨Nat.le_of_ble_eq_true rfl, Nat.le_of_ble_eq_true rfl⟩) (ci := 8) hc33 rfl rfl rfl hl.1 (Nat.le_of_ble_eq_true rfl) dX10_setLight_37 (c1 := 17) (s1 := 2912) ⟨⟨rfl, rfl⟩, by decide, by decide⟩ (fun M36 N37 H locs hp38 hV => ?_)
        obtain ⟨kn140, hN41, hc42, hc43, hf44⟩ := hp38
        refine lv_aload_n hx_ hb_ dX10_setLight_40 rfl (lv_at hl 0 rfl) ?_
        refine sc_get (ci := 8) (C := RX10) (T := TX10) (n := 11) S hK hV inX10_ hc42 rfl 0 (by decide) (S.2.2.2.2 _ (List.mem_of_getElem? (i := 4) rfl)) rfl rfl dX10_setLight_41 ?_
        have hc45 : stC G M36 (c + 1) f := hc34.fr (fun x q8 q9 => hf44 x (by omega) (by omega) (by omega))
        refine sc_getN (ci := 4) (C := RX6) (T := TX6) (n := 8) S hK hV inX6_ (hc45).1 rfl 0 (by decide) (E.2.2.2.2.2.1.1.2.1 _ (List.mem_of_getElem? (i := 3) rfl)) rfl rfl dX10_setLight_44 ?_
        refine lv_iload_n hx_ hb_ dX10_setLight_47 rfl (lv_at hl 1 rfl) ?_
        refine si_bipush S dX10_setLight_48 (by decide) ?_
        refine sk_VP E hV (As := [.int (sI s), .int (sI 6)]) (rest := []) (kTg l_ G b_ M36 N37 (c + 2) 7 (f 568) 70 (tvS f) s 6 (f (60 + s)) ((hc45).2.1) (by omega) (by omega) (tvS_6 f s)) (cwV 2 S.2.2.2.2 gX10_setLight_X8_get rfl rfl rfl (by decide +kernel) ⟨Nat.le_of_ble_eq_true rfl, Nat.le_of_ble_eq_true rfl⟩) (ci := 6) ((hc45).2.1).1 rfl rfl rfl hl.1 (Nat.le_of_ble_eq_true rfl) dX10_setLight_50 (c1 := 17) (s1 := 2912) ⟨⟨rfl, rfl⟩, by decide, by decide⟩ (fun H locs hV => ?_)
        have kn46 : 0 ≤ f (60 + s) ∧ f (60 + s) ≤ 100000 := (sOk_S hok s (by omega) (by omega)).2.2.2.2.2.2
        refine lv_istore_n (lv' := [(3, .int (sI (f (60 + s)))), (0, .ref c), (1, .int (sI s)), (2, .int (sI l))]) hx_ hb_ dX10_setLight_53 rfl hl (by decide) rfl (fun ls hl => ?_)
        refine lv_aload_n hx_ hb_ dX10_setLight_54 rfl (lv_at hl 1 rfl) ?_
        refine sc_get (ci := 8) (C := RX10) (T := TX10) (n := 11) S hK hV inX10_ hc42 rfl 0 (by decide) (S.2.2.2.2 _ (List.mem_of_getElem? (i := 4) rfl)) rfl rfl dX10_setLight_55 ?_
        refine sc_getN (ci := 4) (C := RX6) (T := TX6) (n := 8) S hK hV inX6_ (hc45).1 rfl 0 (by decide) (E.2.2.2.2.2.1.1.2.1 _ (List.mem_of_getElem? (i := 3) rfl)) rfl rfl dX10_setLight_58 ?_
        refine lv_iload_n hx_ hb_ dX10_setLight_61 rfl (lv_at hl 2 rfl) ?_
        refine si_bipush S dX10_setLight_62 (by decide) ?_
        refine lv_iload_n hx_ hb_ dX10_setLight_64 rfl (lv_at hl 3 rfl) ?_
        have hx47 : M36 (c + 1) = some (sObj 4 [.ref (c + 2), .ref (c + 4), .ref (c + 6), .ref (c + 8), .ref (c + 10), .ref (c + 12), .ref (c + 14), .int (sI (f 571))]) := (hc45).1
        have hx48 : stK G M36 (c + 2) 7 (f 568) 70 (tvS f) := (hc45).2.1
        have hx49 : stK G M36 (c + 4) 2 (f 569) 80 (tvC f) := (hc45).2.2.1
        have hx50 : stK G M36 (c + 6) 2 4 8 (tvD f) := (hc45).2.2.2.1
        have hx51 : stK G M36 (c + 8) 6 6 36 (tvP f) := (hc45).2.2.2.2.1
        have hx52 : stK G M36 (c + 10) 5 (f 570) 300 (tvT f) := (hc45).2.2.2.2.2.1
        have hx53 : stK G M36 (c + 12) 4 (f 572) 80 (tvW f) := (hc45).2.2.2.2.2.2.1
        have hx54 : stK G M36 (c + 14) 3 (f 573) 24 (tvO f) := (hc45).2.2.2.2.2.2.2
        refine sk_Vv E hV (As := [.int (sI s), .int (sI 6), .int (sI l)]) (rest := []) (kTw l_ G b_ M36 N37 (c + 2) 7 (f 568) 70 (tvS f) s 6 l hx48 (by omega) (by omega)) (cwV 3 S.2.2.2.2 gX10_setLight_X8_set rfl rfl rfl (by decide +kernel) ⟨Nat.le_of_ble_eq_true rfl, Nat.le_of_ble_eq_true rfl⟩) (ci := 6) (hx48).1 rfl rfl rfl hl.1 (Nat.le_of_ble_eq_true rfl) dX10_setLight_65 (c1 := 17) (s1 := 2912) ⟨⟨rfl, rfl⟩, by decide, by decide⟩ (fun M55 N56 H locs hp57 hV => ?_)
        obtain ⟨hN59, hc60, hf61⟩ := hp57
        rw [hN59] at hV
        refine lv_iload_n hx_ hb_ dX10_setLight_68 rfl (lv_at hl 0 rfl) ?_
        have hc62 : M55 (c + 1) = some (sObj 4 [.ref (c + 2), .ref (c + 4), .ref (c + 6), .ref (c + 8), .ref (c + 10), .ref (c + 12), .ref (c + 14), .int (sI (f 571))]) := (hf61 (c + 1) (by omega)).trans hx47
        have hc63 : stK G M55 (c + 4) 2 (f 569) 80 (tvC f) := hx49.fr (fun x q8 q9 => hf61 x (by omega))
        have hc64 : stK G M55 (c + 6) 2 4 8 (tvD f) := hx50.fr (fun x q8 q9 => hf61 x (by omega))
        have hc65 : stK G M55 (c + 8) 6 6 36 (tvP f) := hx51.fr (fun x q8 q9 => hf61 x (by omega))
        have hc66 : stK G M55 (c + 10) 5 (f 570) 300 (tvT f) := hx52.fr (fun x q8 q9 => hf61 x (by omega))
        have hc67 : stK G M55 (c + 12) 4 (f 572) 80 (tvW f) := hx53.fr (fun x q8 q9 => hf61 x (by omega))
        have hc68 : stK G M55 (c + 14) 3 (f 573) 24 (tvO f) := hx54.fr (fun x q8 q9 => hf61 x (by omega))
        have hc69 : M55 c = some (xO c kn140 (chn ch)) := (hf61 c (by omega)).trans hc42
        have hc70 : kpC G M55 (c + 31) kb kn140 (chn ch) (fsn ch fs f) := hc43.fr (fun x q8 => hf61 x (by omega))
        exact xr_i E hQ dX10_setLight_69 ⟨Nat.le_of_ble_eq_true rfl, Nat.le_of_ble_eq_true rfl⟩ hV (⟨_, by omega, fun x q0 q1 q2 q3 => (((hf61 x (by omega)).trans (hf44 x (by omega) (by omega) (by omega))).trans (hf30 x )).trans (hf14 x ), ⟨(⟨by omega, by omega, Classical.not_not.mp fun q => ho9 ((ov_i hok (by omega)).mpr q)⟩), rfl, hc69, stC_u0 kn0 hc62 (by rw [show (slF f s l) 568 = f 568 from by unfold slF iup; (repeat (first | rw [if_pos (by omega)] | rw [if_neg (by omega)]))]; exact hc60.c (fun i j q1 q2 q3 q4 => slF_t (by omega) i j (by omega) (by omega))) hc63 hc64 hc65 hc66 hc67 hc68 (fun q w1 w2 w3 w4 => by unfold slF iup; (repeat (first | rw [if_pos (by omega)] | rw [if_neg (by omega)]))), hc70⟩⟩)
      · have hc71 : kpC G M17 (c + 31) kb kn ch fs := hkp.fr (fun x q8 => (hf30 x ).trans (hf14 x ))
        exact xt_W (own := RX10) (rest := []) E hF_ hxt_ hQ hlt (ik := 80) (is := 301) (ic := 84) (cls := "java/lang/IllegalStateException") (text := "the stone has more light in a year") (by decide +kernel) xg_IS (List.mem_of_getElem? (i := 1) rfl) (List.mem_of_getElem? (i := 2) rfl) (fun _ h => List.mem_cons_of_mem _ (List.mem_append_left _ (List.mem_append_left _ (List.mem_append_right _ h)))) (List.mem_of_getElem? (i := 18) rfl) hl.1 dX10_setLight_25 dX10_setLight_28 dX10_setLight_29 dX10_setLight_32 dX10_setLight_35 ⟨Nat.le_of_ble_eq_true rfl, Nat.le_of_ble_eq_true rfl, Nat.le_of_ble_eq_true rfl, Nat.le_of_ble_eq_true rfl⟩ ⟨Nat.le_of_ble_eq_true rfl, Nat.le_of_ble_eq_true rfl⟩ hV (fun N9 h9 => ⟨_, by omega, fun x q0 q1 q2 q3 => (hf30 x ).trans (hf14 x ), Or.inr (Or.inr (⟨(⟨by omega, by omega, (ov_i hok (by omega)).mp ho9⟩), rfl, hc33, hc34, hc71⟩))⟩)

