/-! The class, further on. -/
abbrev rmX10_lay : Room := { frames := 7, cells := 25, slots := 3000, locals := 125 }
set_option maxHeartbeats 4000000 in
set_option maxRecDepth 100000 in
theorem kX10_lay (l_ : Launch) (G : sG) (b_ : Nat) (M : sM) (N : Nat) (c : Nat) (kn ch : Int) (f : sF) (kb : Nat) (fs : Int → sF) (s d : Int) (hc0 : M c = some (xO c kn ch)) (hst : stC G M (c + 1) f) (hkp : kpC G M (c + 31) kb kn ch fs) (hlt : l_.stackTraces = false) (hok : sOk f) (hkb : c + 60 ≤ kb) (hkN : kb ≤ N) (hI : dI f) (hr : sR s ∧ sR d) : xcI l_ yX10_lay wsX10_lay rmX10_lay G b_ M N [.ref c, .int (sI s), .int (sI d)] (fun z_ M1 N1 => ∃ kn1 : Int, N ≤ N1 ∧ (∀ x : Nat, ¬ (x = c) → ¬ (x = c + 31) → ¬ (kb ≤ x) → ¬ (c + 1 ≤ x ∧ x < c + 1 + 15) → M1 x = M x) ∧ (((((0 ≤ s ∧ s < f 568)) ∧ (d = -1 ∨ 0 ≤ d ∧ d ≤ 3)) ∧ z_ = whyL f s d ∧ M1 c = some (xO c kn1 (chn ch)) ∧ stC G M1 (c + 1) (layF f s d) ∧ kpC G M1 (c + 31) kb kn1 (chn ch) (fsn ch fs f)))) (fun E_ M1 N1 => ∃ kn1 : Int, N ≤ N1 ∧ (∀ x : Nat, ¬ (x = c) → ¬ (x = c + 31) → ¬ (kb ≤ x) → ¬ (c + 1 ≤ x ∧ x < c + 1 + 15) → M1 x = M x) ∧ (((¬ (0 ≤ s ∧ s < f 568)) ∧ E_ = "java/lang/IndexOutOfBoundsException" ∧ M1 c = some (xO c kn1 ch) ∧ stC G M1 (c + 1) f ∧ kpC G M1 (c + 31) kb kn1 ch fs) ∨ ((((0 ≤ s ∧ s < f 568)) ∧ ¬ (d = -1 ∨ 0 ≤ d ∧ d ≤ 3)) ∧ E_ = "java/lang/IllegalArgumentException" ∧ M1 c = some (xO c kn1 ch) ∧ stC G M1 (c + 1) f ∧ kpC G M1 (c + 31) kb kn1 ch fs))) := by
  refine xcE.ofI (cc := cX10_lay) (nL := 5) (ret := (some .int)) (by decide) rfl (Nat.le_of_ble_eq_true rfl) ?_
  intro p_ e_ s_ m_ args_ below_ meth_ c_ ls Q hQ E hF_ hxt_ hl
  have E : sE p_ l_ e_ rmX10_lay s_ m_ args_ below_ meth_ c_ cX10_lay 5 wsX10_lay RX10 "lay" (some .int) G b_ M N := E
  have S := E.1
  have hx_ := S.1
  have hb_ := S.2.1
  have hK := E.2.2.2.2.1
  have hV := E.2.2.2.2.2.2
  have hl : lv_has ls 5 [(0, .ref c), (1, .int (sI s)), (2, .int (sI d))] := hl
  have inX10_ : ∀ w ∈ wsX100, w ∈ wsX10_lay := fun _ h => List.mem_cons_of_mem _ (List.mem_append_left _ (List.mem_append_left _ (List.mem_append_left _ (List.mem_append_left _ (List.mem_append_right _ h)))))
  have inX6_ : ∀ w ∈ wsX60, w ∈ wsX10_lay := fun _ h => List.mem_cons_of_mem _ (List.mem_append_left _ (List.mem_append_left _ (List.mem_append_left _ (List.mem_append_right _ h))))
  have inX8_ : ∀ w ∈ wsX80, w ∈ wsX10_lay := fun _ h => List.mem_cons_of_mem _ (List.mem_append_left _ (List.mem_append_left _ (List.mem_append_right _ h)))
  have hbN : b_ ≤ N := by have h1 := hV.1.1; have h2 := hV.2.2; omega
  have kn0 := sOk_N hok
  refine lv_aload_n hx_ hb_ dX10_lay_0 rfl (lv_at hl 0 rfl) ?_
  refine lv_iload_n hx_ hb_ dX10_lay_1 rfl (lv_at hl 1 rfl) ?_
  refine xk_Vv E hF_ hxt_ hQ hV (As := [.int (sI s)]) (rest := []) (kX10_needStone l_ G b_ M N c kn ch f s hc0 hst (by omega) (by omega) (by omega)) (cwV 1 S.2.2.2.2 gX10_lay_X10_needStone rfl rfl rfl (by decide +kernel) ⟨Nat.le_of_ble_eq_true rfl, Nat.le_of_ble_eq_true rfl⟩) (ci := 8) hc0 rfl rfl rfl hl.1 (Nat.le_of_ble_eq_true rfl) dX10_lay_2 (c1 := 1) (s1 := 6) ⟨⟨rfl, rfl⟩, by decide, by decide⟩ ⟨Nat.le_of_ble_eq_true rfl, Nat.le_of_ble_eq_true rfl⟩ ?_ (fun M1 N2 H locs hp3 hV => ?_)
  · rintro E9 M9 N9 ⟨hN5, hf6, hq7⟩
    rcases hq7 with ⟨c8, ee9⟩
    · have hc10 : M9 c = some (xO c kn ch) := (hf6 c ).trans hc0
      have hc11 : stC G M9 (c + 1) f := hst.fr (fun x q8 q9 => hf6 x )
      have hc12 : kpC G M9 (c + 31) kb kn ch fs := hkp.fr (fun x q8 => hf6 x )
      exact ⟨_, by omega, fun x q0 q1 q2 q3 => hf6 x , Or.inl ⟨(by first | exact c8 | omega), ee9, hc10, hc11, hc12⟩⟩
  obtain ⟨hN13, hf14, hq15⟩ := hp3
  rw [hN13] at hV
  rcases hq15 with c16
  · refine lv_iload_n hx_ hb_ dX10_lay_5 rfl (lv_at hl 2 rfl) ?_
    refine si_const S dX10_lay_6 ?_
    refine si_const S dX10_lay_7 ?_
    refine xk_Sv E hF_ hxt_ hQ hV (As := [.int (sI d), .int (sI (-1)), .int (sI 3)]) (rest := []) (kX10_needRange l_ G b_ M1 N d (-1) 3 (by omega) (by omega)) (va_cwS 3 S.2.2.2.2 gX10_lay_X10_needRange rfl rfl rfl (by decide +kernel) ⟨Nat.le_of_ble_eq_true rfl, Nat.le_of_ble_eq_true rfl⟩) rfl rfl hl.1 (Nat.le_of_ble_eq_true rfl) dX10_lay_8 (c1 := 2) (s1 := 12) ⟨⟨rfl, rfl⟩, by decide, by decide⟩ ⟨Nat.le_of_ble_eq_true rfl, Nat.le_of_ble_eq_true rfl⟩ ?_ (fun M17 N18 H locs hp19 hV => ?_)
    · rintro E9 M9 N9 ⟨hN21, hf22, hq23⟩
      rcases hq23 with ⟨c24, ee25⟩
      · have hc26 : M9 c = some (xO c kn ch) := ((hf22 c ).trans (hf14 c )).trans hc0
        have hc27 : stC G M9 (c + 1) f := hst.fr (fun x q8 q9 => (hf22 x ).trans (hf14 x ))
        have hc28 : kpC G M9 (c + 31) kb kn ch fs := hkp.fr (fun x q8 => (hf22 x ).trans (hf14 x ))
        exact ⟨_, by omega, fun x q0 q1 q2 q3 => (hf22 x ).trans (hf14 x ), Or.inr (⟨(by first | exact c24 | omega), ee25, hc26, hc27, hc28⟩)⟩
    obtain ⟨hN29, hf30, hq31⟩ := hp19
    rw [hN29] at hV
    rcases hq31 with c32
    · refine lv_aload_n hx_ hb_ dX10_lay_11 rfl (lv_at hl 0 rfl) ?_
      have hc33 : M17 c = some (xO c kn ch) := ((hf30 c ).trans (hf14 c )).trans hc0
      have hc34 : stC G M17 (c + 1) f := hst.fr (fun x q8 q9 => (hf30 x ).trans (hf14 x ))
      have hc35 : kpC G M17 (c + 31) kb kn ch fs := hkp.fr (fun x q8 => (hf30 x ).trans (hf14 x ))
      refine sk_Vv E hV (As := []) (rest := []) (kX10_keepState l_ G b_ M17 N c kn ch f kb fs hc33 hc34 hc35 (by omega) (by omega) (by omega)) (cwV 0 S.2.2.2.2 gX10_lay_X10_keepState rfl rfl rfl (by decide +kernel) ⟨Nat.le_of_ble_eq_true rfl, Nat.le_of_ble_eq_true rfl⟩) (ci := 8) hc33 rfl rfl rfl hl.1 (Nat.le_of_ble_eq_true rfl) dX10_lay_12 (c1 := 17) (s1 := 2912) ⟨⟨rfl, rfl⟩, by decide, by decide⟩ (fun M36 N37 H locs hp38 hV => ?_)
      obtain ⟨kn140, hN41, hc42, hc43, hf44⟩ := hp38
      refine lv_aload_n hx_ hb_ dX10_lay_15 rfl (lv_at hl 0 rfl) ?_
      refine sc_get (ci := 8) (C := RX10) (T := TX10) (n := 11) S hK hV inX10_ hc42 rfl 0 (by decide) (S.2.2.2.2 _ (List.mem_of_getElem? (i := 1) rfl)) rfl rfl dX10_lay_16 ?_
      have hc45 : stC G M36 (c + 1) f := hc34.fr (fun x q8 q9 => hf44 x (by omega) (by omega) (by omega))
      refine sc_getN (ci := 4) (C := RX6) (T := TX6) (n := 8) S hK hV inX6_ (hc45).1 rfl 0 (by decide) (E.2.2.2.2.2.1.1.2.1 _ (List.mem_of_getElem? (i := 3) rfl)) rfl rfl dX10_lay_19 ?_
      refine lv_iload_n hx_ hb_ dX10_lay_22 rfl (lv_at hl 1 rfl) ?_
      refine si_const S dX10_lay_23 ?_
      refine sk_VP E hV (As := [.int (sI s), .int (sI 5)]) (rest := []) (kTg l_ G b_ M36 N37 (c + 2) 7 (f 568) 70 (tvS f) s 5 (f (50 + s)) ((hc45).2.1) (by omega) (by omega) (tvS_5 f s)) (cwV 2 S.2.2.2.2 gX10_lay_X8_get rfl rfl rfl (by decide +kernel) ⟨Nat.le_of_ble_eq_true rfl, Nat.le_of_ble_eq_true rfl⟩) (ci := 6) ((hc45).2.1).1 rfl rfl rfl hl.1 (Nat.le_of_ble_eq_true rfl) dX10_lay_24 (c1 := 17) (s1 := 2912) ⟨⟨rfl, rfl⟩, by decide, by decide⟩ (fun H locs hV => ?_)
      have kn46 : -1 ≤ f (50 + s) ∧ f (50 + s) ≤ 3 := (sOk_S hok s (by omega) (by omega)).2.2.2.2.2.1
      refine lv_istore_n (lv' := [(3, .int (sI (f (50 + s)))), (0, .ref c), (1, .int (sI s)), (2, .int (sI d))]) hx_ hb_ dX10_lay_27 rfl hl (by decide) rfl (fun ls hl => ?_)
      refine lv_aload_n hx_ hb_ dX10_lay_28 rfl (lv_at hl 1 rfl) ?_
      refine sc_get (ci := 8) (C := RX10) (T := TX10) (n := 11) S hK hV inX10_ hc42 rfl 0 (by decide) (S.2.2.2.2 _ (List.mem_of_getElem? (i := 1) rfl)) rfl rfl dX10_lay_29 ?_
      refine sc_getN (ci := 4) (C := RX6) (T := TX6) (n := 8) S hK hV inX6_ (hc45).1 rfl 0 (by decide) (E.2.2.2.2.2.1.1.2.1 _ (List.mem_of_getElem? (i := 3) rfl)) rfl rfl dX10_lay_32 ?_
      refine lv_iload_n hx_ hb_ dX10_lay_35 rfl (lv_at hl 2 rfl) ?_
      refine si_const S dX10_lay_36 ?_
      refine lv_iload_n hx_ hb_ dX10_lay_37 rfl (lv_at hl 3 rfl) ?_
      have hx47 : M36 (c + 1) = some (sObj 4 [.ref (c + 2), .ref (c + 4), .ref (c + 6), .ref (c + 8), .ref (c + 10), .ref (c + 12), .ref (c + 14), .int (sI (f 571))]) := (hc45).1
      have hx48 : stK G M36 (c + 2) 7 (f 568) 70 (tvS f) := (hc45).2.1
      have hx49 : stK G M36 (c + 4) 2 (f 569) 80 (tvC f) := (hc45).2.2.1
      have hx50 : stK G M36 (c + 6) 2 4 8 (tvD f) := (hc45).2.2.2.1
      have hx51 : stK G M36 (c + 8) 6 6 36 (tvP f) := (hc45).2.2.2.2.1
      have hx52 : stK G M36 (c + 10) 5 (f 570) 300 (tvT f) := (hc45).2.2.2.2.2.1
      have hx53 : stK G M36 (c + 12) 4 (f 572) 80 (tvW f) := (hc45).2.2.2.2.2.2.1
      have hx54 : stK G M36 (c + 14) 3 (f 573) 24 (tvO f) := (hc45).2.2.2.2.2.2.2
      refine sk_Vv E hV (As := [.int (sI s), .int (sI 5), .int (sI d)]) (rest := []) (kTw l_ G b_ M36 N37 (c + 2) 7 (f 568) 70 (tvS f) s 5 d hx48 (by omega) (by omega)) (cwV 3 S.2.2.2.2 gX10_lay_X8_set rfl rfl rfl (by decide +kernel) ⟨Nat.le_of_ble_eq_true rfl, Nat.le_of_ble_eq_true rfl⟩) (ci := 6) (hx48).1 rfl rfl rfl hl.1 (Nat.le_of_ble_eq_true rfl) dX10_lay_38 (c1 := 17) (s1 := 2912) ⟨⟨rfl, rfl⟩, by decide, by decide⟩ (fun M55 N56 H locs hp57 hV => ?_)
      obtain ⟨hN59, hc60, hf61⟩ := hp57
      rw [hN59] at hV
      refine lv_iload_n hx_ hb_ dX10_lay_41 rfl (lv_at hl 3 rfl) ?_
      refine si_const S dX10_lay_42 ?_
      refine sb_ne (tgt := 50) S dX10_lay_43 (by decide) (by omega) (fun c62 => ?_) (fun c62 => ?_)
      · refine lv_aload_n hx_ hb_ dX10_lay_50 rfl (lv_at hl 1 rfl) ?_
        have hc63 : M55 c = some (xO c kn140 (chn ch)) := (hf61 c (by omega)).trans hc42
        refine sc_get (ci := 8) (C := RX10) (T := TX10) (n := 11) S hK hV inX10_ hc63 rfl 0 (by decide) (S.2.2.2.2 _ (List.mem_of_getElem? (i := 1) rfl)) rfl rfl dX10_lay_51 ?_
        refine lv_iload_n hx_ hb_ dX10_lay_54 rfl (lv_at hl 3 rfl) ?_
        have hc64 : M55 (c + 1) = some (sObj 4 [.ref (c + 2), .ref (c + 4), .ref (c + 6), .ref (c + 8), .ref (c + 10), .ref (c + 12), .ref (c + 14), .int (sI (f 571))]) := (hf61 (c + 1) (by omega)).trans hx47
        have hc65 : stK G M55 (c + 4) 2 (f 569) 80 (tvC f) := hx49.fr (fun x q8 q9 => hf61 x (by omega))
        have hc66 : stK G M55 (c + 6) 2 4 8 (tvD f) := hx50.fr (fun x q8 q9 => hf61 x (by omega))
        have hc67 : stK G M55 (c + 8) 6 6 36 (tvP f) := hx51.fr (fun x q8 q9 => hf61 x (by omega))
        have hc68 : stK G M55 (c + 10) 5 (f 570) 300 (tvT f) := hx52.fr (fun x q8 q9 => hf61 x (by omega))
        have hc69 : stK G M55 (c + 12) 4 (f 572) 80 (tvW f) := hx53.fr (fun x q8 q9 => hf61 x (by omega))
        have hc70 : stK G M55 (c + 14) 3 (f 573) 24 (tvO f) := hx54.fr (fun x q8 q9 => hf61 x (by omega))
        have hy9 : stC G M55 (c + 1) (iup f (50 + s) d) := stC_u0 kn0 hc64 (by rw [show (iup f (50 + s) d) 568 = f 568 from by unfold iup; (repeat (first | rw [if_pos (by omega)] | rw [if_neg (by omega)]))]; exact hc60.c (fun i j q1 q2 q3 q4 => lyF_t (by omega) i j (by omega) (by omega))) hc65 hc66 hc67 hc68 hc69 hc70 (fun q w1 w2 w3 w4 => by unfold iup; (repeat (first | rw [if_pos (by omega)] | rw [if_neg (by omega)])))
        refine sk_VP E hV (As := [.int (sI d)]) (rest := []) (kX6_whyNot l_ G b_ M55 N37 (c + 1) (iup f (50 + s) d) d hy9 (ok_ly hok (by omega) (by omega)) (by omega)) (cwV 1 S.2.2.2.2 gX10_lay_X6_whyNot rfl rfl rfl (by decide +kernel) ⟨Nat.le_of_ble_eq_true rfl, Nat.le_of_ble_eq_true rfl⟩) (ci := 4) hc64 rfl rfl rfl hl.1 (Nat.le_of_ble_eq_true rfl) dX10_lay_55 (c1 := 17) (s1 := 2912) ⟨⟨rfl, rfl⟩, by decide, by decide⟩ (fun H locs hV => ?_)
        rw [wl_e hok hI (by omega) (by omega)]
        refine lv_istore (lv' := [(4, .int (sI (whyL f s d))), (3, .int (sI (f (50 + s)))), (0, .ref c), (1, .int (sI s)), (2, .int (sI d))]) hx_ hb_ dX10_lay_58 hl (by decide) rfl (fun ls hl => ?_)
        refine lv_iload hx_ hb_ dX10_lay_60 (lv_at hl 0 rfl) ?_
        refine sz_eq (tgt := 78) S dX10_lay_62 (by decide) (by have := whyL_r f s d; omega) (fun hw9 => ?_) (fun hw9 => ?_)
        · refine lv_iload hx_ hb_ dX10_lay_78 (lv_at hl 0 rfl) ?_
          have hc71 : kpC G M55 (c + 31) kb kn140 (chn ch) (fsn ch fs f) := hc43.fr (fun x q8 => hf61 x (by omega))
          exact xr_i E hQ dX10_lay_80 ⟨Nat.le_of_ble_eq_true rfl, Nat.le_of_ble_eq_true rfl⟩ hV (⟨_, by omega, fun x q0 q1 q2 q3 => (((hf61 x (by omega)).trans (hf44 x (by omega) (by omega) (by omega))).trans (hf30 x )).trans (hf14 x ), ⟨(by omega), rfl, hc63, by unfold layF; rw [if_pos hw9]; exact stC_u0 kn0 hc64 (by rw [show (iup f (50 + s) d) 568 = f 568 from by unfold iup; (repeat (first | rw [if_pos (by omega)] | rw [if_neg (by omega)]))]; exact hc60.c (fun i j q1 q2 q3 q4 => lyF_t (by omega) i j (by omega) (by omega))) hc65 hc66 hc67 hc68 hc69 hc70 (fun q w1 w2 w3 w4 => by unfold iup; (repeat (first | rw [if_pos (by omega)] | rw [if_neg (by omega)]))), hc71⟩⟩)
        · refine lv_aload_n hx_ hb_ dX10_lay_65 rfl (lv_at hl 2 rfl) ?_
          refine sc_get (ci := 8) (C := RX10) (T := TX10) (n := 11) S hK hV inX10_ hc63 rfl 0 (by decide) (S.2.2.2.2 _ (List.mem_of_getElem? (i := 1) rfl)) rfl rfl dX10_lay_66 ?_
          refine sc_getN (ci := 4) (C := RX6) (T := TX6) (n := 8) S hK hV inX6_ hc64 rfl 0 (by decide) (E.2.2.2.2.2.1.1.2.1 _ (List.mem_of_getElem? (i := 3) rfl)) rfl rfl dX10_lay_69 ?_
          refine lv_iload_n hx_ hb_ dX10_lay_72 rfl (lv_at hl 3 rfl) ?_
          refine si_const S dX10_lay_73 ?_
          refine lv_iload_n hx_ hb_ dX10_lay_74 rfl (lv_at hl 1 rfl) ?_
          refine sk_Vv E hV (As := [.int (sI s), .int (sI 5), .int (sI (f (50 + s)))]) (rest := []) (kTw l_ G b_ M55 N37 (c + 2) 7 (f 568) 70 (tvU (tvS f) s 5 d) s 5 (f (50 + s)) hc60 (by omega) (by omega)) (cwV 3 S.2.2.2.2 gX10_lay_X8_set rfl rfl rfl (by decide +kernel) ⟨Nat.le_of_ble_eq_true rfl, Nat.le_of_ble_eq_true rfl⟩) (ci := 6) (hc60).1 rfl rfl rfl hl.1 (Nat.le_of_ble_eq_true rfl) dX10_lay_75 (c1 := 17) (s1 := 2912) ⟨⟨rfl, rfl⟩, by decide, by decide⟩ (fun M72 N73 H locs hp74 hV => ?_)
          obtain ⟨hN76, hc77, hf78⟩ := hp74
          rw [hN76] at hV
          refine lv_iload hx_ hb_ dX10_lay_78 (lv_at hl 0 rfl) ?_
          have hc79 : M72 (c + 1) = some (sObj 4 [.ref (c + 2), .ref (c + 4), .ref (c + 6), .ref (c + 8), .ref (c + 10), .ref (c + 12), .ref (c + 14), .int (sI (f 571))]) := (hf78 (c + 1) (by omega)).trans hc64
          have hc80 : stK G M72 (c + 4) 2 (f 569) 80 (tvC f) := hc65.fr (fun x q8 q9 => hf78 x (by omega))
          have hc81 : stK G M72 (c + 6) 2 4 8 (tvD f) := hc66.fr (fun x q8 q9 => hf78 x (by omega))
          have hc82 : stK G M72 (c + 8) 6 6 36 (tvP f) := hc67.fr (fun x q8 q9 => hf78 x (by omega))
          have hc83 : stK G M72 (c + 10) 5 (f 570) 300 (tvT f) := hc68.fr (fun x q8 q9 => hf78 x (by omega))
          have hc84 : stK G M72 (c + 12) 4 (f 572) 80 (tvW f) := hc69.fr (fun x q8 q9 => hf78 x (by omega))
          have hc85 : stK G M72 (c + 14) 3 (f 573) 24 (tvO f) := hc70.fr (fun x q8 q9 => hf78 x (by omega))
          have hc86 : M72 c = some (xO c kn140 (chn ch)) := (hf78 c (by omega)).trans hc63
          have hc87 : kpC G M72 (c + 31) kb kn140 (chn ch) (fsn ch fs f) := hc43.fr (fun x q8 => (hf78 x (by omega)).trans (hf61 x (by omega)))
          exact xr_i E hQ dX10_lay_80 ⟨Nat.le_of_ble_eq_true rfl, Nat.le_of_ble_eq_true rfl⟩ hV (⟨_, by omega, fun x q0 q1 q2 q3 => ((((hf78 x (by omega)).trans (hf61 x (by omega))).trans (hf44 x (by omega) (by omega) (by omega))).trans (hf30 x )).trans (hf14 x ), ⟨(by omega), rfl, hc86, by unfold layF; rw [if_neg hw9]; exact stC_u0 kn0 hc79 (hc77.c (fun i j q1 q2 q3 q4 => lyF_b i j)) hc80 hc81 hc82 hc83 hc84 hc85 (fun q w1 w2 w3 w4 => rfl), hc87⟩⟩)
      · refine si_const S dX10_lay_46 ?_
        refine lv_goto (tgt := 58) hx_ hb_ dX10_lay_47 (by decide) ?_
        refine lv_istore (lv' := [(4, .int (sI 0)), (3, .int (sI (f (50 + s)))), (0, .ref c), (1, .int (sI s)), (2, .int (sI d))]) hx_ hb_ dX10_lay_58 hl (by decide) rfl (fun ls hl => ?_)
        refine lv_iload hx_ hb_ dX10_lay_60 (lv_at hl 0 rfl) ?_
        refine sz_eq (tgt := 78) S dX10_lay_62 (by decide) (by have := whyL_r f s d; omega) (fun _ => ?_) (fun hw9 => absurd hw9 (by omega))
        refine lv_iload hx_ hb_ dX10_lay_78 (lv_at hl 0 rfl) ?_
        have hc88 : M55 (c + 1) = some (sObj 4 [.ref (c + 2), .ref (c + 4), .ref (c + 6), .ref (c + 8), .ref (c + 10), .ref (c + 12), .ref (c + 14), .int (sI (f 571))]) := (hf61 (c + 1) (by omega)).trans hx47
        have hc89 : stK G M55 (c + 4) 2 (f 569) 80 (tvC f) := hx49.fr (fun x q8 q9 => hf61 x (by omega))
        have hc90 : stK G M55 (c + 6) 2 4 8 (tvD f) := hx50.fr (fun x q8 q9 => hf61 x (by omega))
        have hc91 : stK G M55 (c + 8) 6 6 36 (tvP f) := hx51.fr (fun x q8 q9 => hf61 x (by omega))
        have hc92 : stK G M55 (c + 10) 5 (f 570) 300 (tvT f) := hx52.fr (fun x q8 q9 => hf61 x (by omega))
        have hc93 : stK G M55 (c + 12) 4 (f 572) 80 (tvW f) := hx53.fr (fun x q8 q9 => hf61 x (by omega))
        have hc94 : stK G M55 (c + 14) 3 (f 573) 24 (tvO f) := hx54.fr (fun x q8 q9 => hf61 x (by omega))
        have hc95 : M55 c = some (xO c kn140 (chn ch)) := (hf61 c (by omega)).trans hc42
        have hc96 : kpC G M55 (c + 31) kb kn140 (chn ch) (fsn ch fs f) := hc43.fr (fun x q8 => hf61 x (by omega))
        exact xr_i E hQ dX10_lay_80 ⟨Nat.le_of_ble_eq_true rfl, Nat.le_of_ble_eq_true rfl⟩ hV (⟨_, by omega, fun x q0 q1 q2 q3 => (((hf61 x (by omega)).trans (hf44 x (by omega) (by omega) (by omega))).trans (hf30 x )).trans (hf14 x ), ⟨(by omega), by unfold whyL; rw [if_pos (by omega)], hc95, by unfold layF; rw [if_pos (by unfold whyL; rw [if_pos (by omega)])]; exact stC_u0 kn0 hc88 (by rw [show (iup f (50 + s) d) 568 = f 568 from by unfold iup; (repeat (first | rw [if_pos (by omega)] | rw [if_neg (by omega)]))]; exact hc60.c (fun i j q1 q2 q3 q4 => lyF_t (by omega) i j (by omega) (by omega))) hc89 hc90 hc91 hc92 hc93 hc94 (fun q w1 w2 w3 w4 => by unfold iup; (repeat (first | rw [if_pos (by omega)] | rw [if_neg (by omega)]))), hc96⟩⟩)

