/-! The class, further on. -/
abbrev rmX10_setDrawer : Room := { frames := 7, cells := 25, slots := 3000, locals := 125 }
set_option maxHeartbeats 4000000 in
set_option maxRecDepth 100000 in
theorem kX10_setDrawer (l_ : Launch) (G : sG) (b_ : Nat) (M : sM) (N : Nat) (c : Nat) (kn ch : Int) (f : sF) (kb : Nat) (fs : Int → sF) (d z v : Int) (hc0 : M c = some (xO c kn ch)) (hst : stC G M (c + 1) f) (hkp : kpC G M (c + 31) kb kn ch fs) (hlt : l_.stackTraces = false) (hok : sOk f) (hkb : c + 60 ≤ kb) (hkN : kb ≤ N) (hr : sR d ∧ sR z ∧ sR v) : xcI l_ yX10_setDrawer wsX10_setDrawer rmX10_setDrawer G b_ M N [.ref c, .int (sI d), .int (sI z), .int (sI v)] (fun z_ M1 N1 => ∃ kn1 : Int, N ≤ N1 ∧ (∀ x : Nat, ¬ (x = c) → ¬ (x = c + 31) → ¬ (kb ≤ x) → ¬ (c + 1 ≤ x ∧ x < c + 1 + 15) → M1 x = M x) ∧ (((((0 ≤ d ∧ d ≤ 3) ∧ (0 ≤ z ∧ z ≤ 99) ∧ (0 ≤ v ∧ v ≤ 999)) ∧ isum (f 568) (lyT f d 1) ≤ z ∧ isum (f 568) (lyT f d 2) ≤ v) ∧ z_ = f (150 + d) ∧ M1 c = some (xO c kn1 (chn ch)) ∧ stC G M1 (c + 1) (sdF f d z v) ∧ kpC G M1 (c + 31) kb kn1 (chn ch) (fsn ch fs f)))) (fun E_ M1 N1 => ∃ kn1 : Int, N ≤ N1 ∧ (∀ x : Nat, ¬ (x = c) → ¬ (x = c + 31) → ¬ (kb ≤ x) → ¬ (c + 1 ≤ x ∧ x < c + 1 + 15) → M1 x = M x) ∧ (((¬ ((0 ≤ d ∧ d ≤ 3) ∧ (0 ≤ z ∧ z ≤ 99) ∧ (0 ≤ v ∧ v ≤ 999))) ∧ E_ = "java/lang/IllegalArgumentException" ∧ M1 c = some (xO c kn1 ch) ∧ stC G M1 (c + 1) f ∧ kpC G M1 (c + 31) kb kn1 ch fs) ∨ ((((0 ≤ d ∧ d ≤ 3) ∧ (0 ≤ z ∧ z ≤ 99) ∧ (0 ≤ v ∧ v ≤ 999)) ∧ ¬ (isum (f 568) (lyT f d 1) ≤ z ∧ isum (f 568) (lyT f d 2) ≤ v)) ∧ E_ = "java/lang/IllegalStateException" ∧ M1 c = some (xO c kn1 ch) ∧ stC G M1 (c + 1) f ∧ kpC G M1 (c + 31) kb kn1 ch fs))) := by
  refine xcE.ofI (cc := cX10_setDrawer) (nL := 5) (ret := (some .int)) (by decide) rfl (Nat.le_of_ble_eq_true rfl) ?_
  intro p_ e_ s_ m_ args_ below_ meth_ c_ ls Q hQ E hF_ hxt_ hl
  have E : sE p_ l_ e_ rmX10_setDrawer s_ m_ args_ below_ meth_ c_ cX10_setDrawer 5 wsX10_setDrawer RX10 "setDrawer" (some .int) G b_ M N := E
  have S := E.1
  have hx_ := S.1
  have hb_ := S.2.1
  have hK := E.2.2.2.2.1
  have hV := E.2.2.2.2.2.2
  have hl : lv_has ls 5 [(0, .ref c), (1, .int (sI d)), (2, .int (sI z)), (3, .int (sI v))] := hl
  have inX10_ : ∀ w ∈ wsX100, w ∈ wsX10_setDrawer := fun _ h => List.mem_cons_of_mem _ (List.mem_append_left _ (List.mem_append_left _ (List.mem_append_left _ (List.mem_append_left _ (List.mem_append_right _ h)))))
  have inX6_ : ∀ w ∈ wsX60, w ∈ wsX10_setDrawer := fun _ h => List.mem_cons_of_mem _ (List.mem_append_left _ (List.mem_append_left _ (List.mem_append_left _ (List.mem_append_right _ h))))
  have inX8_ : ∀ w ∈ wsX80, w ∈ wsX10_setDrawer := fun _ h => List.mem_cons_of_mem _ (List.mem_append_left _ (List.mem_append_left _ (List.mem_append_right _ h)))
  have hbN : b_ ≤ N := by have h1 := hV.1.1; have h2 := hV.2.2; omega
  have kn0 := sOk_N hok
  have b1 := ly_r hok d 1 (f 568) (by omega) (by omega)
  have b2 := ly_r hok d 2 (f 568) (by omega) (by omega)
  refine lv_iload_n hx_ hb_ dX10_setDrawer_0 rfl (lv_at hl 1 rfl) ?_
  refine si_const S dX10_setDrawer_1 ?_
  refine si_const S dX10_setDrawer_2 ?_
  refine xk_Sv E hF_ hxt_ hQ hV (As := [.int (sI d), .int (sI 0), .int (sI 3)]) (rest := []) (kX10_needRange l_ G b_ M N d 0 3 (by omega) (by omega)) (va_cwS 3 S.2.2.2.2 gX10_setDrawer_X10_needRange rfl rfl rfl (by decide +kernel) ⟨Nat.le_of_ble_eq_true rfl, Nat.le_of_ble_eq_true rfl⟩) rfl rfl hl.1 (Nat.le_of_ble_eq_true rfl) dX10_setDrawer_3 (c1 := 1) (s1 := 6) ⟨⟨rfl, rfl⟩, by decide, by decide⟩ ⟨Nat.le_of_ble_eq_true rfl, Nat.le_of_ble_eq_true rfl⟩ ?_ (fun M1 N2 H locs hp3 hV => ?_)
  · rintro E9 M9 N9 ⟨hN5, hf6, hq7⟩
    rcases hq7 with ⟨c8, ee9⟩
    · have hc10 : M9 c = some (xO c kn ch) := (hf6 c ).trans hc0
      have hc11 : stC G M9 (c + 1) f := hst.fr (fun x q8 q9 => hf6 x )
      have hc12 : kpC G M9 (c + 31) kb kn ch fs := hkp.fr (fun x q8 => hf6 x )
      exact ⟨_, by omega, fun x q0 q1 q2 q3 => hf6 x , Or.inl ⟨(by first | exact c8 | omega), ee9, hc10, hc11, hc12⟩⟩
  obtain ⟨hN13, hf14, hq15⟩ := hp3
  rw [hN13] at hV
  rcases hq15 with c16
  · refine lv_iload_n hx_ hb_ dX10_setDrawer_6 rfl (lv_at hl 2 rfl) ?_
    refine si_const S dX10_setDrawer_7 ?_
    refine si_bipush S dX10_setDrawer_8 (by decide) ?_
    refine xk_Sv E hF_ hxt_ hQ hV (As := [.int (sI z), .int (sI 0), .int (sI 99)]) (rest := []) (kX10_needRange l_ G b_ M1 N z 0 99 (by omega) (by omega)) (va_cwS 3 S.2.2.2.2 gX10_setDrawer_X10_needRange rfl rfl rfl (by decide +kernel) ⟨Nat.le_of_ble_eq_true rfl, Nat.le_of_ble_eq_true rfl⟩) rfl rfl hl.1 (Nat.le_of_ble_eq_true rfl) dX10_setDrawer_10 (c1 := 2) (s1 := 12) ⟨⟨rfl, rfl⟩, by decide, by decide⟩ ⟨Nat.le_of_ble_eq_true rfl, Nat.le_of_ble_eq_true rfl⟩ ?_ (fun M17 N18 H locs hp19 hV => ?_)
    · rintro E9 M9 N9 ⟨hN21, hf22, hq23⟩
      rcases hq23 with ⟨c24, ee25⟩
      · have hc26 : M9 c = some (xO c kn ch) := ((hf22 c ).trans (hf14 c )).trans hc0
        have hc27 : stC G M9 (c + 1) f := hst.fr (fun x q8 q9 => (hf22 x ).trans (hf14 x ))
        have hc28 : kpC G M9 (c + 31) kb kn ch fs := hkp.fr (fun x q8 => (hf22 x ).trans (hf14 x ))
        exact ⟨_, by omega, fun x q0 q1 q2 q3 => (hf22 x ).trans (hf14 x ), Or.inl ⟨(by first | exact c24 | omega), ee25, hc26, hc27, hc28⟩⟩
    obtain ⟨hN29, hf30, hq31⟩ := hp19
    rw [hN29] at hV
    rcases hq31 with c32
    · refine lv_iload_n hx_ hb_ dX10_setDrawer_13 rfl (lv_at hl 3 rfl) ?_
      refine si_const S dX10_setDrawer_14 ?_
      refine si_sipush S dX10_setDrawer_15 (by decide) ?_
      refine xk_Sv E hF_ hxt_ hQ hV (As := [.int (sI v), .int (sI 0), .int (sI 999)]) (rest := []) (kX10_needRange l_ G b_ M17 N v 0 999 (by omega) (by omega)) (va_cwS 3 S.2.2.2.2 gX10_setDrawer_X10_needRange rfl rfl rfl (by decide +kernel) ⟨Nat.le_of_ble_eq_true rfl, Nat.le_of_ble_eq_true rfl⟩) rfl rfl hl.1 (Nat.le_of_ble_eq_true rfl) dX10_setDrawer_18 (c1 := 3) (s1 := 18) ⟨⟨rfl, rfl⟩, by decide, by decide⟩ ⟨Nat.le_of_ble_eq_true rfl, Nat.le_of_ble_eq_true rfl⟩ ?_ (fun M33 N34 H locs hp35 hV => ?_)
      · rintro E9 M9 N9 ⟨hN37, hf38, hq39⟩
        rcases hq39 with ⟨c40, ee41⟩
        · have hc42 : M9 c = some (xO c kn ch) := (((hf38 c ).trans (hf30 c )).trans (hf14 c )).trans hc0
          have hc43 : stC G M9 (c + 1) f := hst.fr (fun x q8 q9 => ((hf38 x ).trans (hf30 x )).trans (hf14 x ))
          have hc44 : kpC G M9 (c + 31) kb kn ch fs := hkp.fr (fun x q8 => ((hf38 x ).trans (hf30 x )).trans (hf14 x ))
          exact ⟨_, by omega, fun x q0 q1 q2 q3 => ((hf38 x ).trans (hf30 x )).trans (hf14 x ), Or.inl ⟨(by first | exact c40 | omega), ee41, hc42, hc43, hc44⟩⟩
      obtain ⟨hN45, hf46, hq47⟩ := hp35
      rw [hN45] at hV
      rcases hq47 with c48
      · refine lv_aload_n hx_ hb_ dX10_setDrawer_21 rfl (lv_at hl 0 rfl) ?_
        have hc49 : M33 c = some (xO c kn ch) := (((hf46 c ).trans (hf30 c )).trans (hf14 c )).trans hc0
        refine sc_get (ci := 8) (C := RX10) (T := TX10) (n := 11) S hK hV inX10_ hc49 rfl 0 (by decide) (S.2.2.2.2 _ (List.mem_of_getElem? (i := 3) rfl)) rfl rfl dX10_setDrawer_22 ?_
        refine lv_iload_n hx_ hb_ dX10_setDrawer_25 rfl (lv_at hl 1 rfl) ?_
        refine si_const S dX10_setDrawer_26 ?_
        have hc50 : stC G M33 (c + 1) f := hst.fr (fun x q8 q9 => ((hf46 x ).trans (hf30 x )).trans (hf14 x ))
        refine sk_VP E hV (As := [.int (sI d), .int (sI 1)]) (rest := []) (kX6_sumIn l_ G b_ M33 N (c + 1) f d 1 hc50 (by omega) (by omega) (by omega)) (cwV 2 S.2.2.2.2 gX10_setDrawer_X6_sumIn rfl rfl rfl (by decide +kernel) ⟨Nat.le_of_ble_eq_true rfl, Nat.le_of_ble_eq_true rfl⟩) (ci := 4) (hc50).1 rfl rfl rfl hl.1 (Nat.le_of_ble_eq_true rfl) dX10_setDrawer_27 (c1 := 3) (s1 := 18) ⟨⟨rfl, rfl⟩, by decide, by decide⟩ (fun H locs hV => ?_)
        refine lv_iload_n hx_ hb_ dX10_setDrawer_30 rfl (lv_at hl 2 rfl) ?_
        refine sb_gt (tgt := 47) S dX10_setDrawer_31 (by decide) (by omega) (fun c51 => ?_) (fun c51 => ?_)
        · have hc52 : kpC G M33 (c + 31) kb kn ch fs := hkp.fr (fun x q8 => ((hf46 x ).trans (hf30 x )).trans (hf14 x ))
          exact xt_S (own := RX10) (rest := []) E hF_ hxt_ hQ hlt (ik := 80) (is := 217) (ic := 84) (cls := "java/lang/IllegalStateException") (text := "more lies in the drawer") (by decide +kernel) xg_IS (List.mem_of_getElem? (i := 1) rfl) (List.mem_of_getElem? (i := 2) rfl) (fun _ h => List.mem_cons_of_mem _ (List.mem_append_left _ (List.mem_append_right _ h))) (List.mem_of_getElem? (i := 10) rfl) hl.1 dX10_setDrawer_47 dX10_setDrawer_50 dX10_setDrawer_51 dX10_setDrawer_53 dX10_setDrawer_56 ⟨Nat.le_of_ble_eq_true rfl, Nat.le_of_ble_eq_true rfl, Nat.le_of_ble_eq_true rfl, Nat.le_of_ble_eq_true rfl⟩ ⟨Nat.le_of_ble_eq_true rfl, Nat.le_of_ble_eq_true rfl⟩ hV (fun N9 h9 => ⟨_, by omega, fun x q0 q1 q2 q3 => ((hf46 x ).trans (hf30 x )).trans (hf14 x ), Or.inr (⟨(by first | omega | assumption), rfl, hc49, hc50, hc52⟩)⟩)
        · refine lv_aload_n hx_ hb_ dX10_setDrawer_34 rfl (lv_at hl 0 rfl) ?_
          refine sc_get (ci := 8) (C := RX10) (T := TX10) (n := 11) S hK hV inX10_ hc49 rfl 0 (by decide) (S.2.2.2.2 _ (List.mem_of_getElem? (i := 3) rfl)) rfl rfl dX10_setDrawer_35 ?_
          refine lv_iload_n hx_ hb_ dX10_setDrawer_38 rfl (lv_at hl 1 rfl) ?_
          refine si_const S dX10_setDrawer_39 ?_
          refine sk_VP E hV (As := [.int (sI d), .int (sI 2)]) (rest := []) (kX6_sumIn l_ G b_ M33 N (c + 1) f d 2 hc50 (by omega) (by omega) (by omega)) (cwV 2 S.2.2.2.2 gX10_setDrawer_X6_sumIn rfl rfl rfl (by decide +kernel) ⟨Nat.le_of_ble_eq_true rfl, Nat.le_of_ble_eq_true rfl⟩) (ci := 4) (hc50).1 rfl rfl rfl hl.1 (Nat.le_of_ble_eq_true rfl) dX10_setDrawer_40 (c1 := 3) (s1 := 18) ⟨⟨rfl, rfl⟩, by decide, by decide⟩ (fun H locs hV => ?_)
          refine lv_iload_n hx_ hb_ dX10_setDrawer_43 rfl (lv_at hl 3 rfl) ?_
          refine sb_le (tgt := 57) S dX10_setDrawer_44 (by decide) (by omega) (fun c53 => ?_) (fun c53 => ?_)
          · refine lv_aload_n hx_ hb_ dX10_setDrawer_57 rfl (lv_at hl 0 rfl) ?_
            have hc54 : kpC G M33 (c + 31) kb kn ch fs := hkp.fr (fun x q8 => ((hf46 x ).trans (hf30 x )).trans (hf14 x ))
            refine sk_Vv E hV (As := []) (rest := []) (kX10_keepState l_ G b_ M33 N c kn ch f kb fs hc49 hc50 hc54 (by omega) (by omega) (by omega)) (cwV 0 S.2.2.2.2 gX10_setDrawer_X10_keepState rfl rfl rfl (by decide +kernel) ⟨Nat.le_of_ble_eq_true rfl, Nat.le_of_ble_eq_true rfl⟩) (ci := 8) hc49 rfl rfl rfl hl.1 (Nat.le_of_ble_eq_true rfl) dX10_setDrawer_58 (c1 := 18) (s1 := 2918) ⟨⟨rfl, rfl⟩, by decide, by decide⟩ (fun M55 N56 H locs hp57 hV => ?_)
            obtain ⟨kn159, hN60, hc61, hc62, hf63⟩ := hp57
            refine lv_aload_n hx_ hb_ dX10_setDrawer_61 rfl (lv_at hl 0 rfl) ?_
            refine sc_get (ci := 8) (C := RX10) (T := TX10) (n := 11) S hK hV inX10_ hc61 rfl 0 (by decide) (S.2.2.2.2 _ (List.mem_of_getElem? (i := 3) rfl)) rfl rfl dX10_setDrawer_62 ?_
            have hc64 : stC G M55 (c + 1) f := hc50.fr (fun x q8 q9 => hf63 x (by omega) (by omega) (by omega))
            refine sc_getN (ci := 4) (C := RX6) (T := TX6) (n := 8) S hK hV inX6_ (hc64).1 rfl 2 (by decide) (E.2.2.2.2.2.1.1.2.1 _ (List.mem_of_getElem? (i := 8) rfl)) rfl rfl dX10_setDrawer_65 ?_
            refine lv_iload_n hx_ hb_ dX10_setDrawer_68 rfl (lv_at hl 1 rfl) ?_
            refine si_const S dX10_setDrawer_69 ?_
            refine sk_VP E hV (As := [.int (sI d), .int (sI 0)]) (rest := []) (kTg l_ G b_ M55 N56 (c + 6) 2 4 8 (tvD f) d 0 (f (150 + d)) ((hc64).2.2.2.1) (by omega) (by omega) (tvD_0 f d)) (cwV 2 S.2.2.2.2 gX10_setDrawer_X8_get rfl rfl rfl (by decide +kernel) ⟨Nat.le_of_ble_eq_true rfl, Nat.le_of_ble_eq_true rfl⟩) (ci := 6) ((hc64).2.2.2.1).1 rfl rfl rfl hl.1 (Nat.le_of_ble_eq_true rfl) dX10_setDrawer_70 (c1 := 18) (s1 := 2918) ⟨⟨rfl, rfl⟩, by decide, by decide⟩ (fun H locs hV => ?_)
            have kn65 : 0 ≤ f (150 + d) ∧ f (150 + d) ≤ 99 := (sOk_D hok d (by omega) (by omega)).1
            refine lv_istore (lv' := [(4, .int (sI (f (150 + d)))), (0, .ref c), (1, .int (sI d)), (2, .int (sI z)), (3, .int (sI v))]) hx_ hb_ dX10_setDrawer_73 hl (by decide) rfl (fun ls hl => ?_)
            refine lv_aload_n hx_ hb_ dX10_setDrawer_75 rfl (lv_at hl 1 rfl) ?_
            refine sc_get (ci := 8) (C := RX10) (T := TX10) (n := 11) S hK hV inX10_ hc61 rfl 0 (by decide) (S.2.2.2.2 _ (List.mem_of_getElem? (i := 3) rfl)) rfl rfl dX10_setDrawer_76 ?_
            refine sc_getN (ci := 4) (C := RX6) (T := TX6) (n := 8) S hK hV inX6_ (hc64).1 rfl 2 (by decide) (E.2.2.2.2.2.1.1.2.1 _ (List.mem_of_getElem? (i := 8) rfl)) rfl rfl dX10_setDrawer_79 ?_
            refine lv_iload_n hx_ hb_ dX10_setDrawer_82 rfl (lv_at hl 2 rfl) ?_
            refine si_const S dX10_setDrawer_83 ?_
            refine lv_iload_n hx_ hb_ dX10_setDrawer_84 rfl (lv_at hl 3 rfl) ?_
            have hx66 : M55 (c + 1) = some (sObj 4 [.ref (c + 2), .ref (c + 4), .ref (c + 6), .ref (c + 8), .ref (c + 10), .ref (c + 12), .ref (c + 14), .int (sI (f 571))]) := (hc64).1
            have hx67 : stK G M55 (c + 2) 7 (f 568) 70 (tvS f) := (hc64).2.1
            have hx68 : stK G M55 (c + 4) 2 (f 569) 80 (tvC f) := (hc64).2.2.1
            have hx69 : stK G M55 (c + 6) 2 4 8 (tvD f) := (hc64).2.2.2.1
            have hx70 : stK G M55 (c + 8) 6 6 36 (tvP f) := (hc64).2.2.2.2.1
            have hx71 : stK G M55 (c + 10) 5 (f 570) 300 (tvT f) := (hc64).2.2.2.2.2.1
            have hx72 : stK G M55 (c + 12) 4 (f 572) 80 (tvW f) := (hc64).2.2.2.2.2.2.1
            have hx73 : stK G M55 (c + 14) 3 (f 573) 24 (tvO f) := (hc64).2.2.2.2.2.2.2
            refine sk_Vv E hV (As := [.int (sI d), .int (sI 0), .int (sI z)]) (rest := []) (kTw l_ G b_ M55 N56 (c + 6) 2 4 8 (tvD f) d 0 z hx69 (by omega) (by omega)) (cwV 3 S.2.2.2.2 gX10_setDrawer_X8_set rfl rfl rfl (by decide +kernel) ⟨Nat.le_of_ble_eq_true rfl, Nat.le_of_ble_eq_true rfl⟩) (ci := 6) (hx69).1 rfl rfl rfl hl.1 (Nat.le_of_ble_eq_true rfl) dX10_setDrawer_85 (c1 := 18) (s1 := 2918) ⟨⟨rfl, rfl⟩, by decide, by decide⟩ (fun M74 N75 H locs hp76 hV => ?_)
            obtain ⟨hN78, hc79, hf80⟩ := hp76
            rw [hN78] at hV
            refine lv_aload_n hx_ hb_ dX10_setDrawer_88 rfl (lv_at hl 1 rfl) ?_
            have hc81 : M74 c = some (xO c kn159 (chn ch)) := (hf80 c (by omega)).trans hc61
            refine sc_get (ci := 8) (C := RX10) (T := TX10) (n := 11) S hK hV inX10_ hc81 rfl 0 (by decide) (S.2.2.2.2 _ (List.mem_of_getElem? (i := 3) rfl)) rfl rfl dX10_setDrawer_89 ?_
            have hc82 : M74 (c + 1) = some (sObj 4 [.ref (c + 2), .ref (c + 4), .ref (c + 6), .ref (c + 8), .ref (c + 10), .ref (c + 12), .ref (c + 14), .int (sI (f 571))]) := (hf80 (c + 1) (by omega)).trans hx66
            refine sc_getN (ci := 4) (C := RX6) (T := TX6) (n := 8) S hK hV inX6_ hc82 rfl 2 (by decide) (E.2.2.2.2.2.1.1.2.1 _ (List.mem_of_getElem? (i := 8) rfl)) rfl rfl dX10_setDrawer_92 ?_
            refine lv_iload_n hx_ hb_ dX10_setDrawer_95 rfl (lv_at hl 2 rfl) ?_
            refine si_const S dX10_setDrawer_96 ?_
            refine lv_iload_n hx_ hb_ dX10_setDrawer_97 rfl (lv_at hl 4 rfl) ?_
            refine sk_Vv E hV (As := [.int (sI d), .int (sI 1), .int (sI v)]) (rest := []) (kTw l_ G b_ M74 N56 (c + 6) 2 4 8 (tvU (tvD f) d 0 z) d 1 v hc79 (by omega) (by omega)) (cwV 3 S.2.2.2.2 gX10_setDrawer_X8_set rfl rfl rfl (by decide +kernel) ⟨Nat.le_of_ble_eq_true rfl, Nat.le_of_ble_eq_true rfl⟩) (ci := 6) (hc79).1 rfl rfl rfl hl.1 (Nat.le_of_ble_eq_true rfl) dX10_setDrawer_98 (c1 := 18) (s1 := 2918) ⟨⟨rfl, rfl⟩, by decide, by decide⟩ (fun M83 N84 H locs hp85 hV => ?_)
            obtain ⟨hN87, hc88, hf89⟩ := hp85
            rw [hN87] at hV
            refine lv_iload hx_ hb_ dX10_setDrawer_101 (lv_at hl 0 rfl) ?_
            have hc90 : M83 (c + 1) = some (sObj 4 [.ref (c + 2), .ref (c + 4), .ref (c + 6), .ref (c + 8), .ref (c + 10), .ref (c + 12), .ref (c + 14), .int (sI (f 571))]) := (hf89 (c + 1) (by omega)).trans hc82
            have hc91 : stK G M83 (c + 2) 7 (f 568) 70 (tvS f) := hx67.fr (fun x q8 q9 => (hf89 x (by omega)).trans (hf80 x (by omega)))
            have hc92 : stK G M83 (c + 4) 2 (f 569) 80 (tvC f) := hx68.fr (fun x q8 q9 => (hf89 x (by omega)).trans (hf80 x (by omega)))
            have hc93 : stK G M83 (c + 8) 6 6 36 (tvP f) := hx70.fr (fun x q8 q9 => (hf89 x (by omega)).trans (hf80 x (by omega)))
            have hc94 : stK G M83 (c + 10) 5 (f 570) 300 (tvT f) := hx71.fr (fun x q8 q9 => (hf89 x (by omega)).trans (hf80 x (by omega)))
            have hc95 : stK G M83 (c + 12) 4 (f 572) 80 (tvW f) := hx72.fr (fun x q8 q9 => (hf89 x (by omega)).trans (hf80 x (by omega)))
            have hc96 : stK G M83 (c + 14) 3 (f 573) 24 (tvO f) := hx73.fr (fun x q8 q9 => (hf89 x (by omega)).trans (hf80 x (by omega)))
            have hc97 : M83 c = some (xO c kn159 (chn ch)) := (hf89 c (by omega)).trans hc81
            have hc98 : kpC G M83 (c + 31) kb kn159 (chn ch) (fsn ch fs f) := hc62.fr (fun x q8 => (hf89 x (by omega)).trans (hf80 x (by omega)))
            exact xr_i E hQ dX10_setDrawer_103 ⟨Nat.le_of_ble_eq_true rfl, Nat.le_of_ble_eq_true rfl⟩ hV (⟨_, by omega, fun x q0 q1 q2 q3 => (((((hf89 x (by omega)).trans (hf80 x (by omega))).trans (hf63 x (by omega) (by omega) (by omega))).trans (hf46 x )).trans (hf30 x )).trans (hf14 x ), ⟨(by omega), rfl, hc97, stC_u2 kn0 hc90 hc91 hc92 (hc88.c (fun i j q1 q2 q3 q4 => sdF_t (by omega) i j (by omega) (by omega))) hc93 hc94 hc95 hc96 (fun q w1 w2 w3 w4 => by unfold sdF iup; (repeat (first | rw [if_pos (by omega)] | rw [if_neg (by omega)]))), hc98⟩⟩)
          · have hc99 : kpC G M33 (c + 31) kb kn ch fs := hkp.fr (fun x q8 => ((hf46 x ).trans (hf30 x )).trans (hf14 x ))
            exact xt_S (own := RX10) (rest := []) E hF_ hxt_ hQ hlt (ik := 80) (is := 217) (ic := 84) (cls := "java/lang/IllegalStateException") (text := "more lies in the drawer") (by decide +kernel) xg_IS (List.mem_of_getElem? (i := 1) rfl) (List.mem_of_getElem? (i := 2) rfl) (fun _ h => List.mem_cons_of_mem _ (List.mem_append_left _ (List.mem_append_right _ h))) (List.mem_of_getElem? (i := 10) rfl) hl.1 dX10_setDrawer_47 dX10_setDrawer_50 dX10_setDrawer_51 dX10_setDrawer_53 dX10_setDrawer_56 ⟨Nat.le_of_ble_eq_true rfl, Nat.le_of_ble_eq_true rfl, Nat.le_of_ble_eq_true rfl, Nat.le_of_ble_eq_true rfl⟩ ⟨Nat.le_of_ble_eq_true rfl, Nat.le_of_ble_eq_true rfl⟩ hV (fun N9 h9 => ⟨_, by omega, fun x q0 q1 q2 q3 => ((hf46 x ).trans (hf30 x )).trans (hf14 x ), Or.inr (⟨(by first | omega | assumption), rfl, hc49, hc50, hc99⟩)⟩)

abbrev rmX10_part : Room := { frames := 7, cells := 25, slots := 3000, locals := 125 }
set_option maxHeartbeats 4000000 in
set_option maxRecDepth 100000 in
theorem kX10_part (l_ : Launch) (G : sG) (b_ : Nat) (M : sM) (N : Nat) (c : Nat) (kn ch : Int) (f : sF) (kb : Nat) (fs : Int → sF) (p q : Int) (B : Prop) (hc0 : M c = some (xO c kn ch)) (hst : stC G M (c + 1) f) (hkp : kpC G M (c + 31) kb kn ch fs) (hlt : l_.stackTraces = false) (hok : sOk f) (hkb : c + 60 ≤ kb) (hkN : kb ≤ N) (hr : sR p ∧ sR q) : xcI l_ yX10_part wsX10_part rmX10_part G b_ M N [.ref c, .int (sI p), .int (sI q), .int (sI (bI B))] (fun z_ M1 N1 => ∃ kn1 : Int, N ≤ N1 ∧ (∀ x : Nat, ¬ (x = c) → ¬ (x = c + 31) → ¬ (kb ≤ x) → ¬ (c + 1 ≤ x ∧ x < c + 1 + 15) → M1 x = M x) ∧ (((((0 ≤ p ∧ p ≤ 5) ∧ (0 ≤ q ∧ q ≤ 5)) ∧ ¬ (B ∧ lieP f p q)) ∧ z_ = bI (tb (f (158 + p)) q) ∧ M1 c = some (xO c kn1 (chn ch)) ∧ stC G M1 (c + 1) (prF f B p q) ∧ kpC G M1 (c + 31) kb kn1 (chn ch) (fsn ch fs f)))) (fun E_ M1 N1 => ∃ kn1 : Int, N ≤ N1 ∧ (∀ x : Nat, ¬ (x = c) → ¬ (x = c + 31) → ¬ (kb ≤ x) → ¬ (c + 1 ≤ x ∧ x < c + 1 + 15) → M1 x = M x) ∧ (((¬ ((0 ≤ p ∧ p ≤ 5) ∧ (0 ≤ q ∧ q ≤ 5))) ∧ E_ = "java/lang/IllegalArgumentException" ∧ M1 c = some (xO c kn1 ch) ∧ stC G M1 (c + 1) f ∧ kpC G M1 (c + 31) kb kn1 ch fs) ∨ ((((0 ≤ p ∧ p ≤ 5) ∧ (0 ≤ q ∧ q ≤ 5)) ∧ B ∧ lieP f p q) ∧ E_ = "java/lang/IllegalStateException" ∧ M1 c = some (xO c kn1 ch) ∧ stC G M1 (c + 1) f ∧ kpC G M1 (c + 31) kb kn1 ch fs))) := by
  refine xcE.ofI (cc := cX10_part) (nL := 5) (ret := (some .boolean)) (by decide) rfl (Nat.le_of_ble_eq_true rfl) ?_
  intro p_ e_ s_ m_ args_ below_ meth_ c_ ls Q hQ E hF_ hxt_ hl
  have E : sE p_ l_ e_ rmX10_part s_ m_ args_ below_ meth_ c_ cX10_part 5 wsX10_part RX10 "part" (some .boolean) G b_ M N := E
  have S := E.1
  have hx_ := S.1
  have hb_ := S.2.1
  have hK := E.2.2.2.2.1
  have hV := E.2.2.2.2.2.2
  have hl : lv_has ls 5 [(0, .ref c), (1, .int (sI p)), (2, .int (sI q)), (3, .int (sI (bI B)))] := hl
  have inX10_ : ∀ w ∈ wsX100, w ∈ wsX10_part := fun _ h => List.mem_cons_of_mem _ (List.mem_append_left _ (List.mem_append_left _ (List.mem_append_left _ (List.mem_append_left _ (List.mem_append_right _ h)))))
  have inX6_ : ∀ w ∈ wsX60, w ∈ wsX10_part := fun _ h => List.mem_cons_of_mem _ (List.mem_append_left _ (List.mem_append_left _ (List.mem_append_left _ (List.mem_append_right _ h))))
  have inX8_ : ∀ w ∈ wsX80, w ∈ wsX10_part := fun _ h => List.mem_cons_of_mem _ (List.mem_append_left _ (List.mem_append_left _ (List.mem_append_right _ h)))
  have hbN : b_ ≤ N := by have h1 := hV.1.1; have h2 := hV.2.2; omega
  have kn0 := sOk_N hok
  refine lv_iload_n hx_ hb_ dX10_part_0 rfl (lv_at hl 1 rfl) ?_
  refine si_const S dX10_part_1 ?_
  refine si_const S dX10_part_2 ?_
  refine xk_Sv E hF_ hxt_ hQ hV (As := [.int (sI p), .int (sI 0), .int (sI 5)]) (rest := []) (kX10_needRange l_ G b_ M N p 0 5 (by omega) (by omega)) (va_cwS 3 S.2.2.2.2 gX10_part_X10_needRange rfl rfl rfl (by decide +kernel) ⟨Nat.le_of_ble_eq_true rfl, Nat.le_of_ble_eq_true rfl⟩) rfl rfl hl.1 (Nat.le_of_ble_eq_true rfl) dX10_part_3 (c1 := 1) (s1 := 6) ⟨⟨rfl, rfl⟩, by decide, by decide⟩ ⟨Nat.le_of_ble_eq_true rfl, Nat.le_of_ble_eq_true rfl⟩ ?_ (fun M1 N2 H locs hp3 hV => ?_)
  · rintro E9 M9 N9 ⟨hN5, hf6, hq7⟩
    rcases hq7 with ⟨c8, ee9⟩
    · have hc10 : M9 c = some (xO c kn ch) := (hf6 c ).trans hc0
      have hc11 : stC G M9 (c + 1) f := hst.fr (fun x q8 q9 => hf6 x )
      have hc12 : kpC G M9 (c + 31) kb kn ch fs := hkp.fr (fun x q8 => hf6 x )
      exact ⟨_, by omega, fun x q0 q1 q2 q3 => hf6 x , Or.inl ⟨(by first | exact c8 | omega), ee9, hc10, hc11, hc12⟩⟩
  obtain ⟨hN13, hf14, hq15⟩ := hp3
  rw [hN13] at hV
  rcases hq15 with c16
  · refine lv_iload_n hx_ hb_ dX10_part_6 rfl (lv_at hl 2 rfl) ?_
    refine si_const S dX10_part_7 ?_
    refine si_const S dX10_part_8 ?_
    refine xk_Sv E hF_ hxt_ hQ hV (As := [.int (sI q), .int (sI 0), .int (sI 5)]) (rest := []) (kX10_needRange l_ G b_ M1 N q 0 5 (by omega) (by omega)) (va_cwS 3 S.2.2.2.2 gX10_part_X10_needRange rfl rfl rfl (by decide +kernel) ⟨Nat.le_of_ble_eq_true rfl, Nat.le_of_ble_eq_true rfl⟩) rfl rfl hl.1 (Nat.le_of_ble_eq_true rfl) dX10_part_9 (c1 := 2) (s1 := 12) ⟨⟨rfl, rfl⟩, by decide, by decide⟩ ⟨Nat.le_of_ble_eq_true rfl, Nat.le_of_ble_eq_true rfl⟩ ?_ (fun M17 N18 H locs hp19 hV => ?_)
    · rintro E9 M9 N9 ⟨hN21, hf22, hq23⟩
      rcases hq23 with ⟨c24, ee25⟩
      · have hc26 : M9 c = some (xO c kn ch) := ((hf22 c ).trans (hf14 c )).trans hc0
        have hc27 : stC G M9 (c + 1) f := hst.fr (fun x q8 q9 => (hf22 x ).trans (hf14 x ))
        have hc28 : kpC G M9 (c + 31) kb kn ch fs := hkp.fr (fun x q8 => (hf22 x ).trans (hf14 x ))
        exact ⟨_, by omega, fun x q0 q1 q2 q3 => (hf22 x ).trans (hf14 x ), Or.inl ⟨(by first | exact c24 | omega), ee25, hc26, hc27, hc28⟩⟩
    obtain ⟨hN29, hf30, hq31⟩ := hp19
    rw [hN29] at hV
    rcases hq31 with c32
    · refine lv_iload_n hx_ hb_ dX10_part_12 rfl (lv_at hl 3 rfl) ?_
      refine sq_eq (tgt := 38) S dX10_part_13 (by decide) (fun hB => ?_) (fun hB => ?_)
      · refine lv_aload_n hx_ hb_ dX10_part_38 rfl (lv_at hl 0 rfl) ?_
        have hc33 : M17 c = some (xO c kn ch) := ((hf30 c ).trans (hf14 c )).trans hc0
        have hc34 : stC G M17 (c + 1) f := hst.fr (fun x q8 q9 => (hf30 x ).trans (hf14 x ))
        have hc35 : kpC G M17 (c + 31) kb kn ch fs := hkp.fr (fun x q8 => (hf30 x ).trans (hf14 x ))
        refine sk_Vv E hV (As := []) (rest := []) (kX10_keepState l_ G b_ M17 N c kn ch f kb fs hc33 hc34 hc35 (by omega) (by omega) (by omega)) (cwV 0 S.2.2.2.2 gX10_part_X10_keepState rfl rfl rfl (by decide +kernel) ⟨Nat.le_of_ble_eq_true rfl, Nat.le_of_ble_eq_true rfl⟩) (ci := 8) hc33 rfl rfl rfl hl.1 (Nat.le_of_ble_eq_true rfl) dX10_part_39 (c1 := 17) (s1 := 2912) ⟨⟨rfl, rfl⟩, by decide, by decide⟩ (fun M36 N37 H locs hp38 hV => ?_)
        obtain ⟨kn140, hN41, hc42, hc43, hf44⟩ := hp38
        refine lv_aload_n hx_ hb_ dX10_part_42 rfl (lv_at hl 0 rfl) ?_
        refine sc_get (ci := 8) (C := RX10) (T := TX10) (n := 11) S hK hV inX10_ hc42 rfl 0 (by decide) (S.2.2.2.2 _ (List.mem_of_getElem? (i := 3) rfl)) rfl rfl dX10_part_43 ?_
        refine lv_iload_n hx_ hb_ dX10_part_46 rfl (lv_at hl 1 rfl) ?_
        refine lv_iload_n hx_ hb_ dX10_part_47 rfl (lv_at hl 2 rfl) ?_
        have hc45 : stC G M36 (c + 1) f := hc34.fr (fun x q8 q9 => hf44 x (by omega) (by omega) (by omega))
        refine sk_VP E hV (As := [.int (sI p), .int (sI q)]) (rest := []) (kX6_areParted l_ G b_ M36 N37 (c + 1) f p q hc45 (by omega) (by omega)) (cwV 2 S.2.2.2.2 gX10_part_X6_areParted rfl rfl rfl (by decide +kernel) ⟨Nat.le_of_ble_eq_true rfl, Nat.le_of_ble_eq_true rfl⟩) (ci := 4) (hc45).1 rfl rfl rfl hl.1 (Nat.le_of_ble_eq_true rfl) dX10_part_48 (c1 := 17) (s1 := 2912) ⟨⟨rfl, rfl⟩, by decide, by decide⟩ (fun H locs hV => ?_)
        refine lv_istore (lv' := [(4, .int (sI (bI (tb (f (158 + p)) q)))), (0, .ref c), (1, .int (sI p)), (2, .int (sI q)), (3, .int (sI (bI B)))]) hx_ hb_ dX10_part_51 hl (by decide) rfl (fun ls hl => ?_)
        refine lv_aload_n hx_ hb_ dX10_part_53 rfl (lv_at hl 1 rfl) ?_
        refine sc_get (ci := 8) (C := RX10) (T := TX10) (n := 11) S hK hV inX10_ hc42 rfl 0 (by decide) (S.2.2.2.2 _ (List.mem_of_getElem? (i := 3) rfl)) rfl rfl dX10_part_54 ?_
        refine lv_iload_n hx_ hb_ dX10_part_57 rfl (lv_at hl 2 rfl) ?_
        refine lv_iload_n hx_ hb_ dX10_part_58 rfl (lv_at hl 3 rfl) ?_
        refine lv_iload_n hx_ hb_ dX10_part_59 rfl (lv_at hl 4 rfl) ?_
        refine sk_Vv E hV (As := [.int (sI p), .int (sI q), .int (sI (bI B))]) (rest := []) (kX6_setParted l_ G b_ M36 N37 (c + 1) f p q B hc45 (by omega) (by omega)) (cwV 3 S.2.2.2.2 gX10_part_X6_setParted rfl rfl rfl (by decide +kernel) ⟨Nat.le_of_ble_eq_true rfl, Nat.le_of_ble_eq_true rfl⟩) (ci := 4) (hc45).1 rfl rfl rfl hl.1 (Nat.le_of_ble_eq_true rfl) dX10_part_60 (c1 := 17) (s1 := 2912) ⟨⟨rfl, rfl⟩, by decide, by decide⟩ (fun M46 N47 H locs hp48 hV => ?_)
        obtain ⟨hN50, hc51, hf52⟩ := hp48
        rw [hN50] at hV
        refine lv_iload hx_ hb_ dX10_part_63 (lv_at hl 0 rfl) ?_
        have hc53 : M46 c = some (xO c kn140 (chn ch)) := (hf52 c (by omega)).trans hc42
        have hc54 : kpC G M46 (c + 31) kb kn140 (chn ch) (fsn ch fs f) := hc43.fr (fun x q8 => hf52 x (by omega))
        exact xr_z E hQ bI_or dX10_part_65 ⟨Nat.le_of_ble_eq_true rfl, Nat.le_of_ble_eq_true rfl⟩ hV (⟨_, by omega, fun x q0 q1 q2 q3 => (((hf52 x (by omega)).trans (hf44 x (by omega) (by omega) (by omega))).trans (hf30 x )).trans (hf14 x ), ⟨(⟨by omega, fun h9 => hB h9.1⟩), rfl, hc53, hc51, hc54⟩⟩)
      · refine lv_aload_n hx_ hb_ dX10_part_16 rfl (lv_at hl 0 rfl) ?_
        have hc55 : M17 c = some (xO c kn ch) := ((hf30 c ).trans (hf14 c )).trans hc0
        refine sc_get (ci := 8) (C := RX10) (T := TX10) (n := 11) S hK hV inX10_ hc55 rfl 0 (by decide) (S.2.2.2.2 _ (List.mem_of_getElem? (i := 3) rfl)) rfl rfl dX10_part_17 ?_
        refine lv_iload_n hx_ hb_ dX10_part_20 rfl (lv_at hl 1 rfl) ?_
        refine lv_iload_n hx_ hb_ dX10_part_21 rfl (lv_at hl 2 rfl) ?_
        have hc56 : stC G M17 (c + 1) f := hst.fr (fun x q8 q9 => (hf30 x ).trans (hf14 x ))
        refine sk_VP E hV (As := [.int (sI p), .int (sI q)]) (rest := []) (kX6_lieTogether l_ G b_ M17 N (c + 1) f p q hc56 (by omega) (by omega)) (cwV 2 S.2.2.2.2 gX10_part_X6_lieTogether rfl rfl rfl (by decide +kernel) ⟨Nat.le_of_ble_eq_true rfl, Nat.le_of_ble_eq_true rfl⟩) (ci := 4) (hc56).1 rfl rfl rfl hl.1 (Nat.le_of_ble_eq_true rfl) dX10_part_22 (c1 := 2) (s1 := 12) ⟨⟨rfl, rfl⟩, by decide, by decide⟩ (fun H locs hV => ?_)
        refine sq_eq (tgt := 38) S dX10_part_25 (by decide) (fun hL => ?_) (fun hL => ?_)
        · refine lv_aload_n hx_ hb_ dX10_part_38 rfl (lv_at hl 0 rfl) ?_
          have hc57 : kpC G M17 (c + 31) kb kn ch fs := hkp.fr (fun x q8 => (hf30 x ).trans (hf14 x ))
          refine sk_Vv E hV (As := []) (rest := []) (kX10_keepState l_ G b_ M17 N c kn ch f kb fs hc55 hc56 hc57 (by omega) (by omega) (by omega)) (cwV 0 S.2.2.2.2 gX10_part_X10_keepState rfl rfl rfl (by decide +kernel) ⟨Nat.le_of_ble_eq_true rfl, Nat.le_of_ble_eq_true rfl⟩) (ci := 8) hc55 rfl rfl rfl hl.1 (Nat.le_of_ble_eq_true rfl) dX10_part_39 (c1 := 17) (s1 := 2912) ⟨⟨rfl, rfl⟩, by decide, by decide⟩ (fun M58 N59 H locs hp60 hV => ?_)
          obtain ⟨kn162, hN63, hc64, hc65, hf66⟩ := hp60
          refine lv_aload_n hx_ hb_ dX10_part_42 rfl (lv_at hl 0 rfl) ?_
          refine sc_get (ci := 8) (C := RX10) (T := TX10) (n := 11) S hK hV inX10_ hc64 rfl 0 (by decide) (S.2.2.2.2 _ (List.mem_of_getElem? (i := 3) rfl)) rfl rfl dX10_part_43 ?_
          refine lv_iload_n hx_ hb_ dX10_part_46 rfl (lv_at hl 1 rfl) ?_
          refine lv_iload_n hx_ hb_ dX10_part_47 rfl (lv_at hl 2 rfl) ?_
          have hc67 : stC G M58 (c + 1) f := hc56.fr (fun x q8 q9 => hf66 x (by omega) (by omega) (by omega))
          refine sk_VP E hV (As := [.int (sI p), .int (sI q)]) (rest := []) (kX6_areParted l_ G b_ M58 N59 (c + 1) f p q hc67 (by omega) (by omega)) (cwV 2 S.2.2.2.2 gX10_part_X6_areParted rfl rfl rfl (by decide +kernel) ⟨Nat.le_of_ble_eq_true rfl, Nat.le_of_ble_eq_true rfl⟩) (ci := 4) (hc67).1 rfl rfl rfl hl.1 (Nat.le_of_ble_eq_true rfl) dX10_part_48 (c1 := 17) (s1 := 2912) ⟨⟨rfl, rfl⟩, by decide, by decide⟩ (fun H locs hV => ?_)
          refine lv_istore (lv' := [(4, .int (sI (bI (tb (f (158 + p)) q)))), (0, .ref c), (1, .int (sI p)), (2, .int (sI q)), (3, .int (sI (bI B)))]) hx_ hb_ dX10_part_51 hl (by decide) rfl (fun ls hl => ?_)
          refine lv_aload_n hx_ hb_ dX10_part_53 rfl (lv_at hl 1 rfl) ?_
          refine sc_get (ci := 8) (C := RX10) (T := TX10) (n := 11) S hK hV inX10_ hc64 rfl 0 (by decide) (S.2.2.2.2 _ (List.mem_of_getElem? (i := 3) rfl)) rfl rfl dX10_part_54 ?_
          refine lv_iload_n hx_ hb_ dX10_part_57 rfl (lv_at hl 2 rfl) ?_
          refine lv_iload_n hx_ hb_ dX10_part_58 rfl (lv_at hl 3 rfl) ?_
          refine lv_iload_n hx_ hb_ dX10_part_59 rfl (lv_at hl 4 rfl) ?_
          refine sk_Vv E hV (As := [.int (sI p), .int (sI q), .int (sI (bI B))]) (rest := []) (kX6_setParted l_ G b_ M58 N59 (c + 1) f p q B hc67 (by omega) (by omega)) (cwV 3 S.2.2.2.2 gX10_part_X6_setParted rfl rfl rfl (by decide +kernel) ⟨Nat.le_of_ble_eq_true rfl, Nat.le_of_ble_eq_true rfl⟩) (ci := 4) (hc67).1 rfl rfl rfl hl.1 (Nat.le_of_ble_eq_true rfl) dX10_part_60 (c1 := 17) (s1 := 2912) ⟨⟨rfl, rfl⟩, by decide, by decide⟩ (fun M68 N69 H locs hp70 hV => ?_)
          obtain ⟨hN72, hc73, hf74⟩ := hp70
          rw [hN72] at hV
          refine lv_iload hx_ hb_ dX10_part_63 (lv_at hl 0 rfl) ?_
          have hc75 : M68 c = some (xO c kn162 (chn ch)) := (hf74 c (by omega)).trans hc64
          have hc76 : kpC G M68 (c + 31) kb kn162 (chn ch) (fsn ch fs f) := hc65.fr (fun x q8 => hf74 x (by omega))
          exact xr_z E hQ bI_or dX10_part_65 ⟨Nat.le_of_ble_eq_true rfl, Nat.le_of_ble_eq_true rfl⟩ hV (⟨_, by omega, fun x q0 q1 q2 q3 => (((hf74 x (by omega)).trans (hf66 x (by omega) (by omega) (by omega))).trans (hf30 x )).trans (hf14 x ), ⟨(⟨by omega, fun h9 => hL h9.2⟩), rfl, hc75, hc73, hc76⟩⟩)
        · have hc77 : kpC G M17 (c + 31) kb kn ch fs := hkp.fr (fun x q8 => (hf30 x ).trans (hf14 x ))
          exact xt_S (own := RX10) (rest := []) E hF_ hxt_ hQ hlt (ik := 80) (is := 225) (ic := 84) (cls := "java/lang/IllegalStateException") (text := "stones of these kinds lie together") (by decide +kernel) xg_IS (List.mem_of_getElem? (i := 1) rfl) (List.mem_of_getElem? (i := 2) rfl) (fun _ h => List.mem_cons_of_mem _ (List.mem_append_left _ (List.mem_append_right _ h))) (List.mem_of_getElem? (i := 11) rfl) hl.1 dX10_part_28 dX10_part_31 dX10_part_32 dX10_part_34 dX10_part_37 ⟨Nat.le_of_ble_eq_true rfl, Nat.le_of_ble_eq_true rfl, Nat.le_of_ble_eq_true rfl, Nat.le_of_ble_eq_true rfl⟩ ⟨Nat.le_of_ble_eq_true rfl, Nat.le_of_ble_eq_true rfl⟩ hV (fun N9 h9 => ⟨_, by omega, fun x q0 q1 q2 q3 => (hf30 x ).trans (hf14 x ), Or.inr (⟨(⟨by omega, hB, hL⟩), rfl, hc55, hc56, hc77⟩)⟩)

