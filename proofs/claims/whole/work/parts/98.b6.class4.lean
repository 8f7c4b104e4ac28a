/-! The class, further on. -/
abbrev rmX10_offer : Room := { frames := 7, cells := 25, slots := 3000, locals := 125 }
set_option maxHeartbeats 4000000 in
set_option maxRecDepth 100000 in
theorem kX10_offer (l_ : Launch) (G : sG) (b_ : Nat) (M : sM) (N : Nat) (c : Nat) (kn ch : Int) (f : sF) (kb : Nat) (fs : Int → sF) (p g v : Int) (hc0 : M c = some (xO c kn ch)) (hst : stC G M (c + 1) f) (hkp : kpC G M (c + 31) kb kn ch fs) (hlt : l_.stackTraces = false) (hok : sOk f) (hkb : c + 60 ≤ kb) (hkN : kb ≤ N) (hr : sR p ∧ sR g ∧ sR v) : xcI l_ yX10_offer wsX10_offer rmX10_offer G b_ M N [.ref c, .int (sI p), .int (sI g), .int (sI v)] (fun z_ M1 N1 => ∃ kn1 : Int, N ≤ N1 ∧ (∀ x : Nat, ¬ (x = c) → ¬ (x = c + 31) → ¬ (kb ≤ x) → ¬ (c + 1 ≤ x ∧ x < c + 1 + 15) → M1 x = M x) ∧ (((((0 ≤ p ∧ p ≤ 4) ∧ (0 ≤ g ∧ g ≤ 5) ∧ (0 ≤ v ∧ v ≤ 5) ∧ g ≠ v) ∧ f 573 < 8) ∧ z_ = f 573 ∧ M1 c = some (xO c kn1 (chn ch)) ∧ stC G M1 (c + 1) (ofF f p g v) ∧ kpC G M1 (c + 31) kb kn1 (chn ch) (fsn ch fs f)))) (fun E_ M1 N1 => ∃ kn1 : Int, N ≤ N1 ∧ (∀ x : Nat, ¬ (x = c) → ¬ (x = c + 31) → ¬ (kb ≤ x) → ¬ (c + 1 ≤ x ∧ x < c + 1 + 15) → M1 x = M x) ∧ (((¬ ((0 ≤ p ∧ p ≤ 4) ∧ (0 ≤ g ∧ g ≤ 5) ∧ (0 ≤ v ∧ v ≤ 5) ∧ g ≠ v)) ∧ E_ = "java/lang/IllegalArgumentException" ∧ M1 c = some (xO c kn1 ch) ∧ stC G M1 (c + 1) f ∧ kpC G M1 (c + 31) kb kn1 ch fs) ∨ ((((0 ≤ p ∧ p ≤ 4) ∧ (0 ≤ g ∧ g ≤ 5) ∧ (0 ≤ v ∧ v ≤ 5) ∧ g ≠ v) ∧ 8 ≤ f 573) ∧ E_ = "java/lang/IllegalStateException" ∧ M1 c = some (xO c kn1 ch) ∧ stC G M1 (c + 1) f ∧ kpC G M1 (c + 31) kb kn1 ch fs))) := by
  refine xcE.ofI (cc := cX10_offer) (nL := 5) (ret := (some .int)) (by decide) rfl (Nat.le_of_ble_eq_true rfl) ?_
  intro p_ e_ s_ m_ args_ below_ meth_ c_ ls Q hQ E hF_ hxt_ hl
  have E : sE p_ l_ e_ rmX10_offer s_ m_ args_ below_ meth_ c_ cX10_offer 5 wsX10_offer RX10 "offer" (some .int) G b_ M N := E
  have S := E.1
  have hx_ := S.1
  have hb_ := S.2.1
  have hK := E.2.2.2.2.1
  have hV := E.2.2.2.2.2.2
  have hl : lv_has ls 5 [(0, .ref c), (1, .int (sI p)), (2, .int (sI g)), (3, .int (sI v))] := hl
  have inX10_ : ∀ w ∈ wsX100, w ∈ wsX10_offer := fun _ h => List.mem_cons_of_mem _ (List.mem_append_left _ (List.mem_append_left _ (List.mem_append_left _ (List.mem_append_left _ (List.mem_append_right _ h)))))
  have inX6_ : ∀ w ∈ wsX60, w ∈ wsX10_offer := fun _ h => List.mem_cons_of_mem _ (List.mem_append_left _ (List.mem_append_left _ (List.mem_append_left _ (List.mem_append_right _ h))))
  have inX8_ : ∀ w ∈ wsX80, w ∈ wsX10_offer := fun _ h => List.mem_cons_of_mem _ (List.mem_append_left _ (List.mem_append_left _ (List.mem_append_right _ h)))
  have hbN : b_ ≤ N := by have h1 := hV.1.1; have h2 := hV.2.2; omega
  have kn0 := sOk_N hok
  refine lv_iload_n hx_ hb_ dX10_offer_0 rfl (lv_at hl 1 rfl) ?_
  refine si_const S dX10_offer_1 ?_
  refine si_const S dX10_offer_2 ?_
  refine xk_Sv E hF_ hxt_ hQ hV (As := [.int (sI p), .int (sI 0), .int (sI 4)]) (rest := []) (kX10_needRange l_ G b_ M N p 0 4 (by omega) (by omega)) (va_cwS 3 S.2.2.2.2 gX10_offer_X10_needRange rfl rfl rfl (by decide +kernel) ⟨Nat.le_of_ble_eq_true rfl, Nat.le_of_ble_eq_true rfl⟩) rfl rfl hl.1 (Nat.le_of_ble_eq_true rfl) dX10_offer_3 (c1 := 1) (s1 := 6) ⟨⟨rfl, rfl⟩, by decide, by decide⟩ ⟨Nat.le_of_ble_eq_true rfl, Nat.le_of_ble_eq_true rfl⟩ ?_ (fun M1 N2 H locs hp3 hV => ?_)
  · rintro E9 M9 N9 ⟨hN5, hf6, hq7⟩
    rcases hq7 with ⟨c8, ee9⟩
    · have hc10 : M9 c = some (xO c kn ch) := (hf6 c ).trans hc0
      have hc11 : stC G M9 (c + 1) f := hst.fr (fun x q8 q9 => hf6 x )
      have hc12 : kpC G M9 (c + 31) kb kn ch fs := hkp.fr (fun x q8 => hf6 x )
      exact ⟨_, by omega, fun x q0 q1 q2 q3 => hf6 x , Or.inl ⟨(by first | exact c8 | omega), ee9, hc10, hc11, hc12⟩⟩
  obtain ⟨hN13, hf14, hq15⟩ := hp3
  rw [hN13] at hV
  rcases hq15 with c16
  · refine lv_iload_n hx_ hb_ dX10_offer_6 rfl (lv_at hl 2 rfl) ?_
    refine si_const S dX10_offer_7 ?_
    refine si_const S dX10_offer_8 ?_
    refine xk_Sv E hF_ hxt_ hQ hV (As := [.int (sI g), .int (sI 0), .int (sI 5)]) (rest := []) (kX10_needRange l_ G b_ M1 N g 0 5 (by omega) (by omega)) (va_cwS 3 S.2.2.2.2 gX10_offer_X10_needRange rfl rfl rfl (by decide +kernel) ⟨Nat.le_of_ble_eq_true rfl, Nat.le_of_ble_eq_true rfl⟩) rfl rfl hl.1 (Nat.le_of_ble_eq_true rfl) dX10_offer_9 (c1 := 2) (s1 := 12) ⟨⟨rfl, rfl⟩, by decide, by decide⟩ ⟨Nat.le_of_ble_eq_true rfl, Nat.le_of_ble_eq_true rfl⟩ ?_ (fun M17 N18 H locs hp19 hV => ?_)
    · rintro E9 M9 N9 ⟨hN21, hf22, hq23⟩
      rcases hq23 with ⟨c24, ee25⟩
      · have hc26 : M9 c = some (xO c kn ch) := ((hf22 c ).trans (hf14 c )).trans hc0
        have hc27 : stC G M9 (c + 1) f := hst.fr (fun x q8 q9 => (hf22 x ).trans (hf14 x ))
        have hc28 : kpC G M9 (c + 31) kb kn ch fs := hkp.fr (fun x q8 => (hf22 x ).trans (hf14 x ))
        exact ⟨_, by omega, fun x q0 q1 q2 q3 => (hf22 x ).trans (hf14 x ), Or.inl ⟨(by first | exact c24 | omega), ee25, hc26, hc27, hc28⟩⟩
    obtain ⟨hN29, hf30, hq31⟩ := hp19
    rw [hN29] at hV
    rcases hq31 with c32
    · refine lv_iload_n hx_ hb_ dX10_offer_12 rfl (lv_at hl 3 rfl) ?_
      refine si_const S dX10_offer_13 ?_
      refine si_const S dX10_offer_14 ?_
      refine xk_Sv E hF_ hxt_ hQ hV (As := [.int (sI v), .int (sI 0), .int (sI 5)]) (rest := []) (kX10_needRange l_ G b_ M17 N v 0 5 (by omega) (by omega)) (va_cwS 3 S.2.2.2.2 gX10_offer_X10_needRange rfl rfl rfl (by decide +kernel) ⟨Nat.le_of_ble_eq_true rfl, Nat.le_of_ble_eq_true rfl⟩) rfl rfl hl.1 (Nat.le_of_ble_eq_true rfl) dX10_offer_15 (c1 := 3) (s1 := 18) ⟨⟨rfl, rfl⟩, by decide, by decide⟩ ⟨Nat.le_of_ble_eq_true rfl, Nat.le_of_ble_eq_true rfl⟩ ?_ (fun M33 N34 H locs hp35 hV => ?_)
      · rintro E9 M9 N9 ⟨hN37, hf38, hq39⟩
        rcases hq39 with ⟨c40, ee41⟩
        · have hc42 : M9 c = some (xO c kn ch) := (((hf38 c ).trans (hf30 c )).trans (hf14 c )).trans hc0
          have hc43 : stC G M9 (c + 1) f := hst.fr (fun x q8 q9 => ((hf38 x ).trans (hf30 x )).trans (hf14 x ))
          have hc44 : kpC G M9 (c + 31) kb kn ch fs := hkp.fr (fun x q8 => ((hf38 x ).trans (hf30 x )).trans (hf14 x ))
          exact ⟨_, by omega, fun x q0 q1 q2 q3 => ((hf38 x ).trans (hf30 x )).trans (hf14 x ), Or.inl ⟨(by first | exact c40 | omega), ee41, hc42, hc43, hc44⟩⟩
      obtain ⟨hN45, hf46, hq47⟩ := hp35
      rw [hN45] at hV
      rcases hq47 with c48
      · refine lv_iload_n hx_ hb_ dX10_offer_18 rfl (lv_at hl 2 rfl) ?_
        refine lv_iload_n hx_ hb_ dX10_offer_19 rfl (lv_at hl 3 rfl) ?_
        refine sb_ne (tgt := 34) S dX10_offer_20 (by decide) (by omega) (fun c49 => ?_) (fun c49 => ?_)
        · refine lv_aload_n hx_ hb_ dX10_offer_34 rfl (lv_at hl 0 rfl) ?_
          have hc50 : M33 c = some (xO c kn ch) := (((hf46 c ).trans (hf30 c )).trans (hf14 c )).trans hc0
          refine sc_get (ci := 8) (C := RX10) (T := TX10) (n := 11) S hK hV inX10_ hc50 rfl 0 (by decide) (S.2.2.2.2 _ (List.mem_of_getElem? (i := 5) rfl)) rfl rfl dX10_offer_35 ?_
          have hc51 : stC G M33 (c + 1) f := hst.fr (fun x q8 q9 => ((hf46 x ).trans (hf30 x )).trans (hf14 x ))
          refine sc_getN (ci := 4) (C := RX6) (T := TX6) (n := 8) S hK hV inX6_ (hc51).1 rfl 6 (by decide) (E.2.2.2.2.2.1.1.2.1 _ (List.mem_of_getElem? (i := 13) rfl)) rfl rfl dX10_offer_38 ?_
          refine sk_VP E hV (As := []) (rest := []) (kTf l_ G b_ M33 N (c + 14) 3 (f 573) 24 (tvO f) (8 ≤ f 573) ((hc51).2.2.2.2.2.2.2) (by omega) (by omega)) (cwV 0 S.2.2.2.2 gX10_offer_X8_isFull rfl rfl rfl (by decide +kernel) ⟨Nat.le_of_ble_eq_true rfl, Nat.le_of_ble_eq_true rfl⟩) (ci := 6) ((hc51).2.2.2.2.2.2.2).1 rfl rfl rfl hl.1 (Nat.le_of_ble_eq_true rfl) dX10_offer_41 (c1 := 3) (s1 := 18) ⟨⟨rfl, rfl⟩, by decide, by decide⟩ (fun H locs hV => ?_)
          refine sq_eq (tgt := 58) S dX10_offer_44 (by decide) (fun c52 => ?_) (fun c52 => ?_)
          · refine lv_aload_n hx_ hb_ dX10_offer_58 rfl (lv_at hl 0 rfl) ?_
            have hc53 : kpC G M33 (c + 31) kb kn ch fs := hkp.fr (fun x q8 => ((hf46 x ).trans (hf30 x )).trans (hf14 x ))
            refine sk_Vv E hV (As := []) (rest := []) (kX10_keepState l_ G b_ M33 N c kn ch f kb fs hc50 hc51 hc53 (by omega) (by omega) (by omega)) (cwV 0 S.2.2.2.2 gX10_offer_X10_keepState rfl rfl rfl (by decide +kernel) ⟨Nat.le_of_ble_eq_true rfl, Nat.le_of_ble_eq_true rfl⟩) (ci := 8) hc50 rfl rfl rfl hl.1 (Nat.le_of_ble_eq_true rfl) dX10_offer_59 (c1 := 18) (s1 := 2918) ⟨⟨rfl, rfl⟩, by decide, by decide⟩ (fun M54 N55 H locs hp56 hV => ?_)
            obtain ⟨kn158, hN59, hc60, hc61, hf62⟩ := hp56
            refine lv_aload_n hx_ hb_ dX10_offer_62 rfl (lv_at hl 0 rfl) ?_
            refine sc_get (ci := 8) (C := RX10) (T := TX10) (n := 11) S hK hV inX10_ hc60 rfl 0 (by decide) (S.2.2.2.2 _ (List.mem_of_getElem? (i := 5) rfl)) rfl rfl dX10_offer_63 ?_
            have hc63 : stC G M54 (c + 1) f := hc51.fr (fun x q8 q9 => hf62 x (by omega) (by omega) (by omega))
            refine sc_getN (ci := 4) (C := RX6) (T := TX6) (n := 8) S hK hV inX6_ (hc63).1 rfl 6 (by decide) (E.2.2.2.2.2.1.1.2.1 _ (List.mem_of_getElem? (i := 13) rfl)) rfl rfl dX10_offer_66 ?_
            have hx64 : M54 (c + 1) = some (sObj 4 [.ref (c + 2), .ref (c + 4), .ref (c + 6), .ref (c + 8), .ref (c + 10), .ref (c + 12), .ref (c + 14), .int (sI (f 571))]) := (hc63).1
            have hx65 : stK G M54 (c + 2) 7 (f 568) 70 (tvS f) := (hc63).2.1
            have hx66 : stK G M54 (c + 4) 2 (f 569) 80 (tvC f) := (hc63).2.2.1
            have hx67 : stK G M54 (c + 6) 2 4 8 (tvD f) := (hc63).2.2.2.1
            have hx68 : stK G M54 (c + 8) 6 6 36 (tvP f) := (hc63).2.2.2.2.1
            have hx69 : stK G M54 (c + 10) 5 (f 570) 300 (tvT f) := (hc63).2.2.2.2.2.1
            have hx70 : stK G M54 (c + 12) 4 (f 572) 80 (tvW f) := (hc63).2.2.2.2.2.2.1
            have hx71 : stK G M54 (c + 14) 3 (f 573) 24 (tvO f) := (hc63).2.2.2.2.2.2.2
            refine sk_Vi E hV (As := []) (rest := []) (kTa l_ G b_ M54 N55 (c + 14) 3 (f 573) 24 (tvO f) hx71 (by omega)) (cwV 0 S.2.2.2.2 gX10_offer_X8_add rfl rfl rfl (by decide +kernel) ⟨Nat.le_of_ble_eq_true rfl, Nat.le_of_ble_eq_true rfl⟩) (ci := 6) (hx71).1 rfl rfl rfl hl.1 (Nat.le_of_ble_eq_true rfl) dX10_offer_69 (c1 := 18) (s1 := 2918) ⟨⟨rfl, rfl⟩, by decide, by decide⟩ (fun z75 M72 N73 H locs hp74 hV => ?_)
            obtain ⟨ez76, hN77, hc78, hf79⟩ := hp74
            rw [hN77] at hV
            rw [ez76]
            refine lv_istore (lv' := [(4, .int (sI (f 573))), (0, .ref c), (1, .int (sI p)), (2, .int (sI g)), (3, .int (sI v))]) hx_ hb_ dX10_offer_72 hl (by decide) rfl (fun ls hl => ?_)
            refine lv_aload_n hx_ hb_ dX10_offer_74 rfl (lv_at hl 1 rfl) ?_
            have hc80 : M72 c = some (xO c kn158 (chn ch)) := (hf79 c (by omega) (by omega)).trans hc60
            refine sc_get (ci := 8) (C := RX10) (T := TX10) (n := 11) S hK hV inX10_ hc80 rfl 0 (by decide) (S.2.2.2.2 _ (List.mem_of_getElem? (i := 5) rfl)) rfl rfl dX10_offer_75 ?_
            have hc81 : M72 (c + 1) = some (sObj 4 [.ref (c + 2), .ref (c + 4), .ref (c + 6), .ref (c + 8), .ref (c + 10), .ref (c + 12), .ref (c + 14), .int (sI (f 571))]) := (hf79 (c + 1) (by omega) (by omega)).trans hx64
            refine sc_getN (ci := 4) (C := RX6) (T := TX6) (n := 8) S hK hV inX6_ hc81 rfl 6 (by decide) (E.2.2.2.2.2.1.1.2.1 _ (List.mem_of_getElem? (i := 13) rfl)) rfl rfl dX10_offer_78 ?_
            refine lv_iload hx_ hb_ dX10_offer_81 (lv_at hl 0 rfl) ?_
            refine si_const S dX10_offer_83 ?_
            refine lv_iload_n hx_ hb_ dX10_offer_84 rfl (lv_at hl 2 rfl) ?_
            refine sk_Vv E hV (As := [.int (sI (f 573)), .int (sI 0), .int (sI p)]) (rest := []) (kTw l_ G b_ M72 N55 (c + 14) 3 ((f 573) + 1) 24 (tvZ (tvO f) (f 573)) (f 573) 0 p hc78 (by omega) (by omega)) (cwV 3 S.2.2.2.2 gX10_offer_X8_set rfl rfl rfl (by decide +kernel) ⟨Nat.le_of_ble_eq_true rfl, Nat.le_of_ble_eq_true rfl⟩) (ci := 6) (hc78).1 rfl rfl rfl hl.1 (Nat.le_of_ble_eq_true rfl) dX10_offer_85 (c1 := 18) (s1 := 2918) ⟨⟨rfl, rfl⟩, by decide, by decide⟩ (fun M82 N83 H locs hp84 hV => ?_)
            obtain ⟨hN86, hc87, hf88⟩ := hp84
            rw [hN86] at hV
            refine lv_aload_n hx_ hb_ dX10_offer_88 rfl (lv_at hl 1 rfl) ?_
            have hc89 : M82 c = some (xO c kn158 (chn ch)) := (hf88 c (by omega)).trans hc80
            refine sc_get (ci := 8) (C := RX10) (T := TX10) (n := 11) S hK hV inX10_ hc89 rfl 0 (by decide) (S.2.2.2.2 _ (List.mem_of_getElem? (i := 5) rfl)) rfl rfl dX10_offer_89 ?_
            have hc90 : M82 (c + 1) = some (sObj 4 [.ref (c + 2), .ref (c + 4), .ref (c + 6), .ref (c + 8), .ref (c + 10), .ref (c + 12), .ref (c + 14), .int (sI (f 571))]) := (hf88 (c + 1) (by omega)).trans hc81
            refine sc_getN (ci := 4) (C := RX6) (T := TX6) (n := 8) S hK hV inX6_ hc90 rfl 6 (by decide) (E.2.2.2.2.2.1.1.2.1 _ (List.mem_of_getElem? (i := 13) rfl)) rfl rfl dX10_offer_92 ?_
            refine lv_iload hx_ hb_ dX10_offer_95 (lv_at hl 0 rfl) ?_
            refine si_const S dX10_offer_97 ?_
            refine lv_iload_n hx_ hb_ dX10_offer_98 rfl (lv_at hl 3 rfl) ?_
            refine sk_Vv E hV (As := [.int (sI (f 573)), .int (sI 1), .int (sI g)]) (rest := []) (kTw l_ G b_ M82 N55 (c + 14) 3 ((f 573) + 1) 24 (tvU (tvZ (tvO f) (f 573)) (f 573) 0 p) (f 573) 1 g hc87 (by omega) (by omega)) (cwV 3 S.2.2.2.2 gX10_offer_X8_set rfl rfl rfl (by decide +kernel) ⟨Nat.le_of_ble_eq_true rfl, Nat.le_of_ble_eq_true rfl⟩) (ci := 6) (hc87).1 rfl rfl rfl hl.1 (Nat.le_of_ble_eq_true rfl) dX10_offer_99 (c1 := 18) (s1 := 2918) ⟨⟨rfl, rfl⟩, by decide, by decide⟩ (fun M91 N92 H locs hp93 hV => ?_)
            obtain ⟨hN95, hc96, hf97⟩ := hp93
            rw [hN95] at hV
            refine lv_aload_n hx_ hb_ dX10_offer_102 rfl (lv_at hl 1 rfl) ?_
            have hc98 : M91 c = some (xO c kn158 (chn ch)) := (hf97 c (by omega)).trans hc89
            refine sc_get (ci := 8) (C := RX10) (T := TX10) (n := 11) S hK hV inX10_ hc98 rfl 0 (by decide) (S.2.2.2.2 _ (List.mem_of_getElem? (i := 5) rfl)) rfl rfl dX10_offer_103 ?_
            have hc99 : M91 (c + 1) = some (sObj 4 [.ref (c + 2), .ref (c + 4), .ref (c + 6), .ref (c + 8), .ref (c + 10), .ref (c + 12), .ref (c + 14), .int (sI (f 571))]) := (hf97 (c + 1) (by omega)).trans hc90
            refine sc_getN (ci := 4) (C := RX6) (T := TX6) (n := 8) S hK hV inX6_ hc99 rfl 6 (by decide) (E.2.2.2.2.2.1.1.2.1 _ (List.mem_of_getElem? (i := 13) rfl)) rfl rfl dX10_offer_106 ?_
            refine lv_iload hx_ hb_ dX10_offer_109 (lv_at hl 0 rfl) ?_
            refine si_const S dX10_offer_111 ?_
            refine lv_iload_n hx_ hb_ dX10_offer_112 rfl (lv_at hl 4 rfl) ?_
            refine sk_Vv E hV (As := [.int (sI (f 573)), .int (sI 2), .int (sI v)]) (rest := []) (kTw l_ G b_ M91 N55 (c + 14) 3 ((f 573) + 1) 24 (tvU (tvU (tvZ (tvO f) (f 573)) (f 573) 0 p) (f 573) 1 g) (f 573) 2 v hc96 (by omega) (by omega)) (cwV 3 S.2.2.2.2 gX10_offer_X8_set rfl rfl rfl (by decide +kernel) ⟨Nat.le_of_ble_eq_true rfl, Nat.le_of_ble_eq_true rfl⟩) (ci := 6) (hc96).1 rfl rfl rfl hl.1 (Nat.le_of_ble_eq_true rfl) dX10_offer_113 (c1 := 18) (s1 := 2918) ⟨⟨rfl, rfl⟩, by decide, by decide⟩ (fun M100 N101 H locs hp102 hV => ?_)
            obtain ⟨hN104, hc105, hf106⟩ := hp102
            rw [hN104] at hV
            refine lv_iload hx_ hb_ dX10_offer_116 (lv_at hl 0 rfl) ?_
            have hc107 : M100 (c + 1) = some (sObj 4 [.ref (c + 2), .ref (c + 4), .ref (c + 6), .ref (c + 8), .ref (c + 10), .ref (c + 12), .ref (c + 14), .int (sI (f 571))]) := (hf106 (c + 1) (by omega)).trans hc99
            have hc108 : stK G M100 (c + 2) 7 (f 568) 70 (tvS f) := hx65.fr (fun x q8 q9 => (((hf106 x (by omega)).trans (hf97 x (by omega))).trans (hf88 x (by omega))).trans (hf79 x (by omega) (by omega)))
            have hc109 : stK G M100 (c + 4) 2 (f 569) 80 (tvC f) := hx66.fr (fun x q8 q9 => (((hf106 x (by omega)).trans (hf97 x (by omega))).trans (hf88 x (by omega))).trans (hf79 x (by omega) (by omega)))
            have hc110 : stK G M100 (c + 6) 2 4 8 (tvD f) := hx67.fr (fun x q8 q9 => (((hf106 x (by omega)).trans (hf97 x (by omega))).trans (hf88 x (by omega))).trans (hf79 x (by omega) (by omega)))
            have hc111 : stK G M100 (c + 8) 6 6 36 (tvP f) := hx68.fr (fun x q8 q9 => (((hf106 x (by omega)).trans (hf97 x (by omega))).trans (hf88 x (by omega))).trans (hf79 x (by omega) (by omega)))
            have hc112 : stK G M100 (c + 10) 5 (f 570) 300 (tvT f) := hx69.fr (fun x q8 q9 => (((hf106 x (by omega)).trans (hf97 x (by omega))).trans (hf88 x (by omega))).trans (hf79 x (by omega) (by omega)))
            have hc113 : stK G M100 (c + 12) 4 (f 572) 80 (tvW f) := hx70.fr (fun x q8 q9 => (((hf106 x (by omega)).trans (hf97 x (by omega))).trans (hf88 x (by omega))).trans (hf79 x (by omega) (by omega)))
            have hc114 : M100 c = some (xO c kn158 (chn ch)) := (hf106 c (by omega)).trans hc98
            have hc115 : kpC G M100 (c + 31) kb kn158 (chn ch) (fsn ch fs f) := hc61.fr (fun x q8 => (((hf106 x (by omega)).trans (hf97 x (by omega))).trans (hf88 x (by omega))).trans (hf79 x (by omega) (by omega)))
            exact xr_i E hQ dX10_offer_118 ⟨Nat.le_of_ble_eq_true rfl, Nat.le_of_ble_eq_true rfl⟩ hV (⟨_, by omega, fun x q0 q1 q2 q3 => (((((((hf106 x (by omega)).trans (hf97 x (by omega))).trans (hf88 x (by omega))).trans (hf79 x (by omega) (by omega))).trans (hf62 x (by omega) (by omega) (by omega))).trans (hf46 x )).trans (hf30 x )).trans (hf14 x ), ⟨(by omega), rfl, hc114, stC_u6 kn0 hc107 hc108 hc109 hc110 hc111 hc112 hc113 (by rw [show (ofF f p g v) 573 = f 573 + 1 from by unfold ofF iup; (repeat (first | rw [if_pos (by omega)] | rw [if_neg (by omega)]))]; exact hc105.c (fun i j q1 q2 q3 q4 => ofF_t (by omega) i j (by omega) (by omega))) (fun q w1 w2 w3 w4 => by unfold ofF iup; (repeat (first | rw [if_pos (by omega)] | rw [if_neg (by omega)]))), hc115⟩⟩)
          · have hc116 : kpC G M33 (c + 31) kb kn ch fs := hkp.fr (fun x q8 => ((hf46 x ).trans (hf30 x )).trans (hf14 x ))
            exact xt_W (own := RX10) (rest := []) E hF_ hxt_ hQ hlt (ik := 80) (is := 324) (ic := 84) (cls := "java/lang/IllegalStateException") (text := "8 offers are told") (by decide +kernel) xg_IS (List.mem_of_getElem? (i := 3) rfl) (List.mem_of_getElem? (i := 4) rfl) (fun _ h => List.mem_cons_of_mem _ (List.mem_append_right _ h)) (List.mem_of_getElem? (i := 21) rfl) hl.1 dX10_offer_47 dX10_offer_50 dX10_offer_51 dX10_offer_54 dX10_offer_57 ⟨Nat.le_of_ble_eq_true rfl, Nat.le_of_ble_eq_true rfl, Nat.le_of_ble_eq_true rfl, Nat.le_of_ble_eq_true rfl⟩ ⟨Nat.le_of_ble_eq_true rfl, Nat.le_of_ble_eq_true rfl⟩ hV (fun N9 h9 => ⟨_, by omega, fun x q0 q1 q2 q3 => ((hf46 x ).trans (hf30 x )).trans (hf14 x ), Or.inr (⟨(by first | omega | assumption), rfl, hc50, hc51, hc116⟩)⟩)
        · have hc117 : M33 c = some (xO c kn ch) := (((hf46 c ).trans (hf30 c )).trans (hf14 c )).trans hc0
          have hc118 : stC G M33 (c + 1) f := hst.fr (fun x q8 q9 => ((hf46 x ).trans (hf30 x )).trans (hf14 x ))
          have hc119 : kpC G M33 (c + 31) kb kn ch fs := hkp.fr (fun x q8 => ((hf46 x ).trans (hf30 x )).trans (hf14 x ))
          exact xt_W (own := RX10) (rest := []) E hF_ hxt_ hQ hlt (ik := 113) (is := 319) (ic := 117) (cls := "java/lang/IllegalArgumentException") (text := "both kinds are the same") (by decide +kernel) xg_IA (List.mem_of_getElem? (i := 1) rfl) (List.mem_of_getElem? (i := 2) rfl) (fun _ h => List.mem_cons_of_mem _ (List.mem_append_left _ (List.mem_append_right _ h))) (List.mem_of_getElem? (i := 20) rfl) hl.1 dX10_offer_23 dX10_offer_26 dX10_offer_27 dX10_offer_30 dX10_offer_33 ⟨Nat.le_of_ble_eq_true rfl, Nat.le_of_ble_eq_true rfl, Nat.le_of_ble_eq_true rfl, Nat.le_of_ble_eq_true rfl⟩ ⟨Nat.le_of_ble_eq_true rfl, Nat.le_of_ble_eq_true rfl⟩ hV (fun N9 h9 => ⟨_, by omega, fun x q0 q1 q2 q3 => ((hf46 x ).trans (hf30 x )).trans (hf14 x ), Or.inl ⟨(by first | omega | assumption), rfl, hc117, hc118, hc119⟩⟩)

abbrev rmX10_clearOffers : Room := { frames := 5, cells := 25, slots := 3000, locals := 125 }
set_option maxHeartbeats 4000000 in
set_option maxRecDepth 100000 in
theorem kX10_clearOffers (l_ : Launch) (G : sG) (b_ : Nat) (M : sM) (N : Nat) (c : Nat) (kn ch : Int) (f : sF) (kb : Nat) (fs : Int → sF) (hc0 : M c = some (xO c kn ch)) (hst : stC G M (c + 1) f) (hkp : kpC G M (c + 31) kb kn ch fs) (hok : sOk f) (hkb : c + 60 ≤ kb) (hkN : kb ≤ N) : cI l_ yX10_clearOffers wsX10_clearOffers rmX10_clearOffers G b_ M N [.ref c] (fun z_ M1 N1 => ∃ kn1 : Int, z_ = f 573 ∧ N ≤ N1 ∧ M1 c = some (xO c kn1 (chn ch)) ∧ stC G M1 (c + 1) (coF f) ∧ kpC G M1 (c + 31) kb kn1 (chn ch) (fsn ch fs f) ∧ (∀ x : Nat, ¬ (x = c) → ¬ (x = c + 31) → ¬ (kb ≤ x) → ¬ (c + 1 ≤ x ∧ x < c + 1 + 15) → M1 x = M x)) := by
  refine sE.ofI (cc := cX10_clearOffers) (nL := 2) (ret := (some .int)) (by decide) rfl (Nat.le_of_ble_eq_true rfl) ?_
  intro p_ e_ s_ m_ args_ below_ meth_ c_ ls Q hQ E hl
  have E : sE p_ l_ e_ rmX10_clearOffers s_ m_ args_ below_ meth_ c_ cX10_clearOffers 2 wsX10_clearOffers RX10 "clearOffers" (some .int) G b_ M N := E
  have S := E.1
  have hx_ := S.1
  have hb_ := S.2.1
  have hK := E.2.2.2.2.1
  have hV := E.2.2.2.2.2.2
  have hl : lv_has ls 2 [(0, .ref c)] := hl
  have inX10_ : ∀ w ∈ wsX100, w ∈ wsX10_clearOffers := fun _ h => List.mem_cons_of_mem _ (List.mem_append_left _ (List.mem_append_left _ (List.mem_append_right _ h)))
  have inX6_ : ∀ w ∈ wsX60, w ∈ wsX10_clearOffers := fun _ h => List.mem_cons_of_mem _ (List.mem_append_left _ (List.mem_append_right _ h))
  have inX8_ : ∀ w ∈ wsX80, w ∈ wsX10_clearOffers := fun _ h => List.mem_cons_of_mem _ (List.mem_append_right _ h)
  have hbN : b_ ≤ N := by have h1 := hV.1.1; have h2 := hV.2.2; omega
  have kn0 := sOk_N hok
  refine lv_aload_n hx_ hb_ dX10_clearOffers_0 rfl (lv_at hl 0 rfl) ?_
  refine sk_Vv E hV (As := []) (rest := []) (kX10_keepState l_ G b_ M N c kn ch f kb fs hc0 hst hkp (by omega) (by omega) (by omega)) (cwV 0 S.2.2.2.2 gX10_clearOffers_X10_keepState rfl rfl rfl (by decide +kernel) ⟨Nat.le_of_ble_eq_true rfl, Nat.le_of_ble_eq_true rfl⟩) (ci := 8) hc0 rfl rfl rfl hl.1 (Nat.le_of_ble_eq_true rfl) dX10_clearOffers_1 (c1 := 15) (s1 := 2900) ⟨⟨rfl, rfl⟩, by decide, by decide⟩ (fun M1 N2 H locs hp3 hV => ?_)
  obtain ⟨kn15, hN6, hc7, hc8, hf9⟩ := hp3
  refine lv_aload_n hx_ hb_ dX10_clearOffers_4 rfl (lv_at hl 0 rfl) ?_
  refine sc_get (ci := 8) (C := RX10) (T := TX10) (n := 11) S hK hV inX10_ hc7 rfl 0 (by decide) (S.2.2.2.2 _ (List.mem_of_getElem? (i := 1) rfl)) rfl rfl dX10_clearOffers_5 ?_
  have hc10 : stC G M1 (c + 1) f := hst.fr (fun x q8 q9 => hf9 x (by omega) (by omega) (by omega))
  refine sc_getN (ci := 4) (C := RX6) (T := TX6) (n := 8) S hK hV inX6_ (hc10).1 rfl 6 (by decide) (E.2.2.2.2.2.1.1.2.1 _ (List.mem_of_getElem? (i := 13) rfl)) rfl rfl dX10_clearOffers_8 ?_
  refine sk_VP E hV (As := []) (rest := []) (kTs l_ G b_ M1 N2 (c + 14) 3 (f 573) 24 (tvO f) ((hc10).2.2.2.2.2.2.2)) (cwV 0 S.2.2.2.2 gX10_clearOffers_X8_size rfl rfl rfl (by decide +kernel) ⟨Nat.le_of_ble_eq_true rfl, Nat.le_of_ble_eq_true rfl⟩) (ci := 6) ((hc10).2.2.2.2.2.2.2).1 rfl rfl rfl hl.1 (Nat.le_of_ble_eq_true rfl) dX10_clearOffers_11 (c1 := 15) (s1 := 2900) ⟨⟨rfl, rfl⟩, by decide, by decide⟩ (fun H locs hV => ?_)
  refine lv_istore_n (lv' := [(1, .int (sI (f 573))), (0, .ref c)]) hx_ hb_ dX10_clearOffers_14 rfl hl (by decide) rfl (fun ls hl => ?_)
  refine lv_aload_n hx_ hb_ dX10_clearOffers_15 rfl (lv_at hl 1 rfl) ?_
  refine sc_get (ci := 8) (C := RX10) (T := TX10) (n := 11) S hK hV inX10_ hc7 rfl 0 (by decide) (S.2.2.2.2 _ (List.mem_of_getElem? (i := 1) rfl)) rfl rfl dX10_clearOffers_16 ?_
  refine sc_getN (ci := 4) (C := RX6) (T := TX6) (n := 8) S hK hV inX6_ (hc10).1 rfl 6 (by decide) (E.2.2.2.2.2.1.1.2.1 _ (List.mem_of_getElem? (i := 13) rfl)) rfl rfl dX10_clearOffers_19 ?_
  have hx11 : M1 (c + 1) = some (sObj 4 [.ref (c + 2), .ref (c + 4), .ref (c + 6), .ref (c + 8), .ref (c + 10), .ref (c + 12), .ref (c + 14), .int (sI (f 571))]) := (hc10).1
  have hx12 : stK G M1 (c + 2) 7 (f 568) 70 (tvS f) := (hc10).2.1
  have hx13 : stK G M1 (c + 4) 2 (f 569) 80 (tvC f) := (hc10).2.2.1
  have hx14 : stK G M1 (c + 6) 2 4 8 (tvD f) := (hc10).2.2.2.1
  have hx15 : stK G M1 (c + 8) 6 6 36 (tvP f) := (hc10).2.2.2.2.1
  have hx16 : stK G M1 (c + 10) 5 (f 570) 300 (tvT f) := (hc10).2.2.2.2.2.1
  have hx17 : stK G M1 (c + 12) 4 (f 572) 80 (tvW f) := (hc10).2.2.2.2.2.2.1
  have hx18 : stK G M1 (c + 14) 3 (f 573) 24 (tvO f) := (hc10).2.2.2.2.2.2.2
  refine sk_Vv E hV (As := []) (rest := []) (kTc l_ G b_ M1 N2 (c + 14) 3 (f 573) 24 (tvO f) hx18) (cwV 0 S.2.2.2.2 gX10_clearOffers_X8_clear rfl rfl rfl (by decide +kernel) ⟨Nat.le_of_ble_eq_true rfl, Nat.le_of_ble_eq_true rfl⟩) (ci := 6) (hx18).1 rfl rfl rfl hl.1 (Nat.le_of_ble_eq_true rfl) dX10_clearOffers_22 (c1 := 15) (s1 := 2900) ⟨⟨rfl, rfl⟩, by decide, by decide⟩ (fun M19 N20 H locs hp21 hV => ?_)
  obtain ⟨hN23, hc24, hf25⟩ := hp21
  rw [hN23] at hV
  refine lv_iload_n hx_ hb_ dX10_clearOffers_25 rfl (lv_at hl 0 rfl) ?_
  have hc26 : M19 (c + 1) = some (sObj 4 [.ref (c + 2), .ref (c + 4), .ref (c + 6), .ref (c + 8), .ref (c + 10), .ref (c + 12), .ref (c + 14), .int (sI (f 571))]) := (hf25 (c + 1) (by omega)).trans hx11
  have hc27 : stK G M19 (c + 2) 7 (f 568) 70 (tvS f) := hx12.fr (fun x q8 q9 => hf25 x (by omega))
  have hc28 : stK G M19 (c + 4) 2 (f 569) 80 (tvC f) := hx13.fr (fun x q8 q9 => hf25 x (by omega))
  have hc29 : stK G M19 (c + 6) 2 4 8 (tvD f) := hx14.fr (fun x q8 q9 => hf25 x (by omega))
  have hc30 : stK G M19 (c + 8) 6 6 36 (tvP f) := hx15.fr (fun x q8 q9 => hf25 x (by omega))
  have hc31 : stK G M19 (c + 10) 5 (f 570) 300 (tvT f) := hx16.fr (fun x q8 q9 => hf25 x (by omega))
  have hc32 : stK G M19 (c + 12) 4 (f 572) 80 (tvW f) := hx17.fr (fun x q8 q9 => hf25 x (by omega))
  have hc33 : M19 c = some (xO c kn15 (chn ch)) := (hf25 c (by omega)).trans hc7
  have hc34 : kpC G M19 (c + 31) kb kn15 (chn ch) (fsn ch fs f) := hc8.fr (fun x q8 => hf25 x (by omega))
  exact sr_i E hQ dX10_clearOffers_26 ⟨Nat.le_of_ble_eq_true rfl, Nat.le_of_ble_eq_true rfl⟩ hV (⟨_, rfl, by omega, hc33, stC_u6 kn0 hc26 hc27 hc28 hc29 hc30 hc31 hc32 (by rw [show (coF f) 573 = 0 from by unfold coF iup; (repeat (first | rw [if_pos (by omega)] | rw [if_neg (by omega)]))]; exact hc24.c (fun i j q1 q2 q3 q4 => coF_t i j ⟨q1, q2⟩)) (fun q w1 w2 w3 w4 => by unfold coF iup; (repeat (first | rw [if_pos (by omega)] | rw [if_neg (by omega)]))), hc34, fun x q0 q1 q2 q3 => (hf25 x (by omega)).trans (hf9 x (by omega) (by omega) (by omega))⟩)
