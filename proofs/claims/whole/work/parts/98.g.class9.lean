/-! The class: layAll, errors. -/
theorem lk_t {f : sF} {B : Prop} {k : Int} {tv : Int → Int → Int} (h : ∀ i j, 0 ≤ i → i < f 568 → 0 ≤ j → j < 7 → tv i j = tvS (laK f B k) i j) (hk : 0 ≤ k ∧ k < f 568 ∧ f 568 ≤ 10) (i j : Int) (hi : 0 ≤ i) (hi2 : i < f 568) (hj : 0 ≤ j) (hj2 : j < 7) : tvU tv k 5 (laB f B k) i j = tvS (laK f B (k + 1)) i j := by
  have hq : ∀ q, q ≠ 50 + k → laK f B (k + 1) q = laK f B k q := fun q e => by
    unfold laK
    by_cases e2 : 50 ≤ q ∧ q < 50 + k
    · rw [if_pos e2, if_pos (by omega)]
    · rw [if_neg e2, if_neg (by omega)]
  unfold tvU
  by_cases e : i = k ∧ j = 5
  · rw [if_pos e, e.1, e.2, tvS_5]
    unfold laK
    rw [if_pos (by omega)]
    congr 1
    omega
  · rw [if_neg e, h i j hi hi2 hj hj2]
    rcases (show j = 0 ∨ j = 1 ∨ j = 2 ∨ j = 3 ∨ j = 4 ∨ j = 5 ∨ j = 6 by omega) with rfl | rfl | rfl | rfl | rfl | rfl | rfl
    · rw [tvS_0, tvS_0, hq _ (by omega)]
    · rw [tvS_1, tvS_1, hq _ (by omega)]
    · rw [tvS_2, tvS_2, hq _ (by omega)]
    · rw [tvS_3, tvS_3, hq _ (by omega)]
    · rw [tvS_4, tvS_4, hq _ (by omega)]
    · rw [tvS_5, tvS_5, hq _ (by omega)]
    · rw [tvS_6, tvS_6, hq _ (by omega)]

abbrev rmX10_layAll : Room := { frames := 6, cells := 25, slots := 3000, locals := 160 }
set_option maxHeartbeats 4000000 in
set_option maxRecDepth 100000 in
theorem kX10_layAll (l_ : Launch) (G : sG) (b_ : Nat) (M : sM) (N : Nat) (c : Nat) (kn ch : Int) (f : sF) (kb : Nat) (fs : Int → sF) (B : Prop) (hc0 : M c = some (xO c kn ch)) (hst : stC G M (c + 1) f) (hkp : kpC G M (c + 31) kb kn ch fs) (hly : layC G M (c + 48)) (hok : sOk f) (hkb : c + 60 ≤ kb) (hkN : kb ≤ N) : cI l_ yX10_layAll wsX10_layAll rmX10_layAll G b_ M N [.ref c, .int (sI (bI B))] (fun z_ M1 N1 => ∃ kn1 : Int, N ≤ N1 ∧ M1 c = some (xO c kn1 (chn ch)) ∧ kpC G M1 (c + 31) kb kn1 (chn ch) (fsn ch fs f) ∧ layC G M1 (c + 48) ∧ (∀ x : Nat, ¬ (x = c) → ¬ (x = c + 31) → ¬ (kb ≤ x) → ¬ (c + 1 ≤ x ∧ x < c + 1 + 15) → ¬ (c + 48 ≤ x ∧ x < c + 48 + 6) → M1 x = M x) ∧ (((¬ ∃ p, laP f B p) ∧ z_ = -1 ∧ stC G M1 (c + 1) f) ∨ ((∃ p, laP f B p) ∧ z_ = laN f B ∧ stC G M1 (c + 1) (laF f B)))) := by
  refine sE.ofI (cc := cX10_layAll) (nL := 6) (ret := (some .int)) (by decide) rfl (Nat.le_of_ble_eq_true rfl) ?_
  intro p_ e_ s_ m_ args_ below_ meth_ c_ ls Q hQ E hl
  have E : sE p_ l_ e_ rmX10_layAll s_ m_ args_ below_ meth_ c_ cX10_layAll 6 wsX10_layAll RX10 "layAll" (some .int) G b_ M N := E
  have S := E.1
  have hx_ := S.1
  have hb_ := S.2.1
  have hK := E.2.2.2.2.1
  have hV := E.2.2.2.2.2.2
  have hl : lv_has ls 6 [(0, .ref c), (1, .int (sI (bI B)))] := hl
  have inX10_ : ∀ w ∈ wsX100, w ∈ wsX10_layAll := fun _ h => List.mem_cons_of_mem _ (List.mem_append_left _ (List.mem_append_left _ (List.mem_append_left _ (List.mem_append_right _ h))))
  have inX6_ : ∀ w ∈ wsX60, w ∈ wsX10_layAll := fun _ h => List.mem_cons_of_mem _ (List.mem_append_left _ (List.mem_append_left _ (List.mem_append_right _ h)))
  have inX8_ : ∀ w ∈ wsX80, w ∈ wsX10_layAll := fun _ h => List.mem_cons_of_mem _ (List.mem_append_left _ (List.mem_append_right _ h))
  have inX3_ : ∀ w ∈ wsX30, w ∈ wsX10_layAll := fun _ h => List.mem_cons_of_mem _ (List.mem_append_right _ h)
  have hbN : b_ ≤ N := by have h1 := hV.1.1; have h2 := hV.2.2; omega
  have kn0 := sOk_N hok
  have hly2 := hly
  obtain ⟨c0, co0, Sz, Wt, He, Bs, Pr, h48, h49, h50, h51, h52, h53⟩ := hly2
  refine lv_aload_n hx_ hb_ dX10_layAll_0 rfl (lv_at hl 0 rfl) ?_
  refine sk_Vv E hV (As := []) (rest := []) (kX10_keepState l_ G b_ M N c kn ch f kb fs hc0 hst hkp (by omega) (by omega) (by omega)) (cwV 0 S.2.2.2.2 gX10_layAll_X10_keepState rfl rfl rfl (by decide +kernel) ⟨Nat.le_of_ble_eq_true rfl, Nat.le_of_ble_eq_true rfl⟩) (ci := 8) hc0 rfl rfl rfl hl.1 (Nat.le_of_ble_eq_true rfl) dX10_layAll_1 (c1 := 15) (s1 := 2900) ⟨⟨rfl, rfl⟩, by decide, by decide⟩ (fun M1 N2 H locs hp3 hV => ?_)
  obtain ⟨kn15, hN6, hc7, hc8, hf9⟩ := hp3
  refine lv_aload_n hx_ hb_ dX10_layAll_4 rfl (lv_at hl 0 rfl) ?_
  refine sc_get (ci := 8) (C := RX10) (T := TX10) (n := 11) S hK hV inX10_ hc7 rfl 8 (by decide) (S.2.2.2.2 _ (List.mem_of_getElem? (i := 1) rfl)) rfl rfl dX10_layAll_5 ?_
  refine lv_aload_n hx_ hb_ dX10_layAll_8 rfl (lv_at hl 0 rfl) ?_
  refine sc_get (ci := 8) (C := RX10) (T := TX10) (n := 11) S hK hV inX10_ hc7 rfl 0 (by decide) (S.2.2.2.2 _ (List.mem_of_getElem? (i := 2) rfl)) rfl rfl dX10_layAll_9 ?_
  refine lv_iload_n hx_ hb_ dX10_layAll_12 rfl (lv_at hl 1 rfl) ?_
  have hc10 : M1 (c + 48) = some (sObj 2 [.ref (c + 49), .ref (c + 50), .ref (c + 51), .ref (c + 52), .ref (c + 53), .int (sI c0), .int (sI co0)]) := (hf9 (c + 48) (by omega) (by omega) (by omega)).trans h48
  have hc11 : M1 (c + 49) = some (sArr G 1024 Sz) := (hf9 (c + 49) (by omega) (by omega) (by omega)).trans h49
  have hc12 : M1 (c + 50) = some (sArr G 1024 Wt) := (hf9 (c + 50) (by omega) (by omega) (by omega)).trans h50
  have hc13 : M1 (c + 51) = some (sArr G 1024 He) := (hf9 (c + 51) (by omega) (by omega) (by omega)).trans h51
  have hc14 : M1 (c + 52) = some (sArr G 1024 Bs) := (hf9 (c + 52) (by omega) (by omega) (by omega)).trans h52
  have hc15 : M1 (c + 53) = some (sArr G 10 Pr) := (hf9 (c + 53) (by omega) (by omega) (by omega)).trans h53
  have hc16 : stC G M1 (c + 1) f := hst.fr (fun x q8 q9 => hf9 x (by omega) (by omega) (by omega))
  refine sk_Vi E hV (As := [.ref (c + 1), .int (sI (bI B))]) (rest := []) (kX3_isFound l_ G b_ M1 N2 (c + 48) (c + 1) c0 co0 Sz Wt He Bs Pr f B hc10 hc11 hc12 hc13 hc14 hc15 hc16 (by omega) (by omega)) (cwV 2 S.2.2.2.2 gX10_layAll_X3_isFound rfl rfl rfl (by decide +kernel) ⟨Nat.le_of_ble_eq_true rfl, Nat.le_of_ble_eq_true rfl⟩) (ci := 2) hc10 rfl rfl rfl hl.1 (Nat.le_of_ble_eq_true rfl) dX10_layAll_13 (c1 := 15) (s1 := 2900) ⟨⟨rfl, rfl⟩, by decide, by decide⟩ (fun z20 M17 N18 H locs hp19 hV => ?_)
  obtain ⟨C921, Z922, W923, H924, B925, P926, ez27, hN28, hc29, hc30, hc31, hc32, hc33, hc34, hf35, hC936, hL937⟩ := hp19
  rw [hN28] at hV
  rw [ez27]
  have hco := hC936
  have hla := hL937
  refine sq_ne (tgt := 21) S dX10_layAll_16 (by decide) (fun hF9 => ?_) (fun hF9 => ?_)
  · have hc38 : stC G M17 (c + 1) f := hc16.fr (fun x q8 q9 => hf35 x (by omega) (by omega) (by omega) (by omega) (by omega) (by omega))
    have hx39 : M17 (c + 1) = some (sObj 4 [.ref (c + 2), .ref (c + 4), .ref (c + 6), .ref (c + 8), .ref (c + 10), .ref (c + 12), .ref (c + 14), .int (sI (f 571))]) := (hc38).1
    have hx40 : stK G M17 (c + 2) 7 (f 568) 70 (tvS f) := (hc38).2.1
    have hx41 : stK G M17 (c + 4) 2 (f 569) 80 (tvC f) := (hc38).2.2.1
    have hx42 : stK G M17 (c + 6) 2 4 8 (tvD f) := (hc38).2.2.2.1
    have hx43 : stK G M17 (c + 8) 6 6 36 (tvP f) := (hc38).2.2.2.2.1
    have hx44 : stK G M17 (c + 10) 5 (f 570) 300 (tvT f) := (hc38).2.2.2.2.2.1
    have hx45 : stK G M17 (c + 12) 4 (f 572) 80 (tvW f) := (hc38).2.2.2.2.2.2.1
    have hx46 : stK G M17 (c + 14) 3 (f 573) 24 (tvO f) := (hc38).2.2.2.2.2.2.2
    have hlb := hla hF9
    have hlo := laB_ok hF9
    refine si_const S dX10_layAll_21 ?_
    refine lv_istore_n (lv' := [(2, .int (sI 0)), (0, .ref c), (1, .int (sI (bI B)))]) hx_ hb_ dX10_layAll_22 rfl hl (by decide) rfl (fun ls hl => ?_)
    refine si_const S dX10_layAll_23 ?_
    refine lv_istore_n (lv' := [(3, .int (sI 0)), (2, .int (sI 0)), (0, .ref c), (1, .int (sI (bI B)))]) hx_ hb_ dX10_layAll_24 rfl hl (by decide) rfl (fun ls hl => ?_)
    have L25 : ∀ (fuel : Nat) (z : Int) (k : Int) (tv2 : Int → Int → Int) (Ml25 : sM) (H : Heap) (locs : List Loc) (ls : Array Slot), ((f 568 - k).toNat) < fuel → (0 ≤ k ∧ k ≤ f 568) → (z = isum k (ohT f (laB f B))) → (∀ i j, 0 ≤ i → i < f 568 → 0 ≤ j → j < 7 → tv2 i j = tvS (laK f B k) i j) → (stK G Ml25 (c + 2) 7 (f 568) 70 tv2) → (∀ x : Nat, ¬ (c + 2 ≤ x ∧ x < c + 2 + 2) → Ml25 x = M17 x) → sV G b_ Ml25 N2 s_ H locs → lv_has ls 6 [(0, .ref c), (2, .int (sI z)), (3, .int (sI k))] → W p_ l_ e_ rmX10_layAll s_ m_ args_ below_ meth_ c_ H locs 15 2900 Q (F0 m_ 25 ls []) := by
      intro fuel
      induction fuel with
      | zero => intro z k tv2 Ml25 H locs ls hmu; exact absurd hmu (Nat.not_lt_zero _)
      | succ fuel ih25 =>
        intro z k tv2 Ml25 H locs ls hmu25 hv25_0 hz htv hm25_0 hfr25 hV hl
        refine lv_iload_n hx_ hb_ dX10_layAll_25 rfl (lv_at hl 2 rfl) ?_
        refine lv_aload_n hx_ hb_ dX10_layAll_26 rfl (lv_at hl 0 rfl) ?_
        have hc47 : Ml25 c = some (xO c kn15 (chn ch)) := ((hfr25 c (by omega)).trans (hf35 c (by omega) (by omega) (by omega) (by omega) (by omega) (by omega))).trans hc7
        refine sc_get (ci := 8) (C := RX10) (T := TX10) (n := 11) S hK hV inX10_ hc47 rfl 0 (by decide) (S.2.2.2.2 _ (List.mem_of_getElem? (i := 2) rfl)) rfl rfl dX10_layAll_27 ?_
        have hc48 : Ml25 (c + 1) = some (sObj 4 [.ref (c + 2), .ref (c + 4), .ref (c + 6), .ref (c + 8), .ref (c + 10), .ref (c + 12), .ref (c + 14), .int (sI (f 571))]) := (hfr25 (c + 1) (by omega)).trans hx39
        refine sc_getN (ci := 4) (C := RX6) (T := TX6) (n := 8) S hK hV inX6_ hc48 rfl 0 (by decide) (E.2.2.2.2.2.1.1.2.1 _ (List.mem_of_getElem? (i := 3) rfl)) rfl rfl dX10_layAll_30 ?_
        refine sk_VP E hV (As := []) (rest := [.int (sI k)]) (kTs l_ G b_ Ml25 N2 (c + 2) 7 (f 568) 70 tv2 hm25_0) (cwV 0 S.2.2.2.2 gX10_layAll_X8_size rfl rfl rfl (by decide +kernel) ⟨Nat.le_of_ble_eq_true rfl, Nat.le_of_ble_eq_true rfl⟩) (ci := 6) (hm25_0).1 rfl rfl rfl hl.1 (Nat.le_of_ble_eq_true rfl) dX10_layAll_33 (c1 := 15) (s1 := 2900) ⟨⟨rfl, rfl⟩, by decide, by decide⟩ (fun H locs hV => ?_)
        refine sb_ge (tgt := 99) S dX10_layAll_36 (by decide) (by omega) (fun c49 => ?_) (fun c49 => ?_)
        · refine lv_iload_n hx_ hb_ dX10_layAll_99 rfl (lv_at hl 1 rfl) ?_
          have hc50 : Ml25 (c + 48) = some (sObj 2 [.ref (c + 49), .ref (c + 50), .ref (c + 51), .ref (c + 52), .ref (c + 53), .int (sI (f 568)), .int (sI C921)]) := (hfr25 (c + 48) (by omega)).trans hc29
          have hc51 : Ml25 (c + 49) = some (sArr G 1024 Z922) := (hfr25 (c + 49) (by omega)).trans hc30
          have hc52 : Ml25 (c + 50) = some (sArr G 1024 W923) := (hfr25 (c + 50) (by omega)).trans hc31
          have hc53 : Ml25 (c + 51) = some (sArr G 1024 H924) := (hfr25 (c + 51) (by omega)).trans hc32
          have hc54 : Ml25 (c + 52) = some (sArr G 1024 B925) := (hfr25 (c + 52) (by omega)).trans hc33
          have hc55 : Ml25 (c + 53) = some (sArr G 10 P926) := (hfr25 (c + 53) (by omega)).trans hc34
          have hc56 : stK G Ml25 (c + 4) 2 (f 569) 80 (tvC f) := hx41.fr (fun x q8 q9 => hfr25 x (by omega))
          have hc57 : stK G Ml25 (c + 6) 2 4 8 (tvD f) := hx42.fr (fun x q8 q9 => hfr25 x (by omega))
          have hc58 : stK G Ml25 (c + 8) 6 6 36 (tvP f) := hx43.fr (fun x q8 q9 => hfr25 x (by omega))
          have hc59 : stK G Ml25 (c + 10) 5 (f 570) 300 (tvT f) := hx44.fr (fun x q8 q9 => hfr25 x (by omega))
          have hc60 : stK G Ml25 (c + 12) 4 (f 572) 80 (tvW f) := hx45.fr (fun x q8 q9 => hfr25 x (by omega))
          have hc61 : stK G Ml25 (c + 14) 3 (f 573) 24 (tvO f) := hx46.fr (fun x q8 q9 => hfr25 x (by omega))
          have hc62 : kpC G Ml25 (c + 31) kb kn15 (chn ch) (fsn ch fs f) := hc8.fr (fun x q8 => (hfr25 x (by omega)).trans (hf35 x (by omega) (by omega) (by omega) (by omega) (by omega) (by omega)))
          exact sr_i E hQ dX10_layAll_100 ⟨Nat.le_of_ble_eq_true rfl, Nat.le_of_ble_eq_true rfl⟩ hV (⟨_, by omega, hc47, hc62, ⟨_, _, _, _, _, _, _, hc50, hc51, hc52, hc53, hc54, hc55⟩, fun x q0 q1 q2 q3 q4 => ((hfr25 x (by omega)).trans (hf35 x (by omega) (by omega) (by omega) (by omega) (by omega) (by omega))).trans (hf9 x (by omega) (by omega) (by omega)), Or.inr (⟨(hF9), by unfold laN lyO; rw [hz, show k = f 568 by omega], stC_u0 kn0 hc48 (by rw [show (laF f B) 568 = f 568 from by unfold laF; (repeat (first | rw [if_pos (by omega)] | rw [if_neg (by omega)]))]; exact hm25_0.c (fun i j q1 q2 q3 q4 => (htv i j q1 q2 q3 q4).trans (by rw [show k = f 568 by omega, laK_n]))) hc56 hc57 hc58 hc59 hc60 hc61 (fun q w1 w2 w3 w4 => by unfold laF; (repeat (first | rw [if_pos (by omega)] | rw [if_neg (by omega)])))⟩)⟩)
        · refine lv_aload_n hx_ hb_ dX10_layAll_39 rfl (lv_at hl 0 rfl) ?_
          refine sc_get (ci := 8) (C := RX10) (T := TX10) (n := 11) S hK hV inX10_ hc47 rfl 0 (by decide) (S.2.2.2.2 _ (List.mem_of_getElem? (i := 2) rfl)) rfl rfl dX10_layAll_40 ?_
          refine sc_getN (ci := 4) (C := RX6) (T := TX6) (n := 8) S hK hV inX6_ hc48 rfl 0 (by decide) (E.2.2.2.2.2.1.1.2.1 _ (List.mem_of_getElem? (i := 3) rfl)) rfl rfl dX10_layAll_43 ?_
          refine lv_iload_n hx_ hb_ dX10_layAll_46 rfl (lv_at hl 2 rfl) ?_
          refine si_const S dX10_layAll_47 ?_
          refine sk_VP E hV (As := [.int (sI k), .int (sI 5)]) (rest := []) (kTg l_ G b_ Ml25 N2 (c + 2) 7 (f 568) 70 tv2 k 5 (tv2 k 5) hm25_0 (by omega) (by omega) (rfl)) (cwV 2 S.2.2.2.2 gX10_layAll_X8_get rfl rfl rfl (by decide +kernel) ⟨Nat.le_of_ble_eq_true rfl, Nat.le_of_ble_eq_true rfl⟩) (ci := 6) (hm25_0).1 rfl rfl rfl hl.1 (Nat.le_of_ble_eq_true rfl) dX10_layAll_48 (c1 := 15) (s1 := 2900) ⟨⟨rfl, rfl⟩, by decide, by decide⟩ (fun H locs hV => ?_)
          rw [htv k 5 (by omega) (by omega) (by omega) (by omega), tvS_5, laK_o f B k (50 + k) (by omega)]
          have hSk := (sOk_S hok k (by omega) (by omega)).2.2.2.2.2.1
          refine lv_istore (lv' := [(4, .int (sI (f (50 + k)))), (0, .ref c), (2, .int (sI z)), (3, .int (sI k))]) hx_ hb_ dX10_layAll_51 hl (by decide) rfl (fun ls hl => ?_)
          refine lv_aload_n hx_ hb_ dX10_layAll_53 rfl (lv_at hl 1 rfl) ?_
          refine sc_get (ci := 8) (C := RX10) (T := TX10) (n := 11) S hK hV inX10_ hc47 rfl 8 (by decide) (S.2.2.2.2 _ (List.mem_of_getElem? (i := 1) rfl)) rfl rfl dX10_layAll_54 ?_
          refine lv_iload_n hx_ hb_ dX10_layAll_57 rfl (lv_at hl 3 rfl) ?_
          have hc63 : Ml25 (c + 48) = some (sObj 2 [.ref (c + 49), .ref (c + 50), .ref (c + 51), .ref (c + 52), .ref (c + 53), .int (sI (f 568)), .int (sI C921)]) := (hfr25 (c + 48) (by omega)).trans hc29
          refine sk_VP E hV (As := [.int (sI k)]) (rest := []) (kX3_drawerFor l_ G b_ Ml25 N2 (c + 48) (f 568) C921 k hc63 (by omega) (hco)) (cwV 1 S.2.2.2.2 gX10_layAll_X3_drawerFor rfl rfl rfl (by decide +kernel) ⟨Nat.le_of_ble_eq_true rfl, Nat.le_of_ble_eq_true rfl⟩) (ci := 2) hc63 rfl rfl rfl hl.1 (Nat.le_of_ble_eq_true rfl) dX10_layAll_58 (c1 := 15) (s1 := 2900) ⟨⟨rfl, rfl⟩, by decide, by decide⟩ (fun H locs hV => ?_)
          rw [hlb k (by omega) (by omega)]
          have hlk := (hlo k (by omega) (by omega)).1
          refine lv_istore (lv' := [(5, .int (sI (laB f B k))), (4, .int (sI (f (50 + k)))), (0, .ref c), (2, .int (sI z)), (3, .int (sI k))]) hx_ hb_ dX10_layAll_61 hl (by decide) rfl (fun ls hl => ?_)
          refine lv_iload hx_ hb_ dX10_layAll_63 (lv_at hl 1 rfl) ?_
          refine si_const S dX10_layAll_65 ?_
          refine sb_eq (tgt := 79) S dX10_layAll_66 (by decide) (by omega) (fun c64 => ?_) (fun c64 => ?_)
          · refine lv_aload_n hx_ hb_ dX10_layAll_79 rfl (lv_at hl 2 rfl) ?_
            refine sc_get (ci := 8) (C := RX10) (T := TX10) (n := 11) S hK hV inX10_ hc47 rfl 0 (by decide) (S.2.2.2.2 _ (List.mem_of_getElem? (i := 2) rfl)) rfl rfl dX10_layAll_80 ?_
            refine sc_getN (ci := 4) (C := RX6) (T := TX6) (n := 8) S hK hV inX6_ hc48 rfl 0 (by decide) (E.2.2.2.2.2.1.1.2.1 _ (List.mem_of_getElem? (i := 3) rfl)) rfl rfl dX10_layAll_83 ?_
            refine lv_iload_n hx_ hb_ dX10_layAll_86 rfl (lv_at hl 4 rfl) ?_
            refine si_const S dX10_layAll_87 ?_
            refine lv_iload hx_ hb_ dX10_layAll_88 (lv_at hl 0 rfl) ?_
            refine sk_Vv E hV (As := [.int (sI k), .int (sI 5), .int (sI (laB f B k))]) (rest := []) (kTw l_ G b_ Ml25 N2 (c + 2) 7 (f 568) 70 tv2 k 5 (laB f B k) hm25_0 (by omega) (by omega)) (cwV 3 S.2.2.2.2 gX10_layAll_X8_set rfl rfl rfl (by decide +kernel) ⟨Nat.le_of_ble_eq_true rfl, Nat.le_of_ble_eq_true rfl⟩) (ci := 6) (hm25_0).1 rfl rfl rfl hl.1 (Nat.le_of_ble_eq_true rfl) dX10_layAll_90 (c1 := 15) (s1 := 2900) ⟨⟨rfl, rfl⟩, by decide, by decide⟩ (fun M65 N66 H locs hp67 hV => ?_)
            obtain ⟨hN69, hc70, hf71⟩ := hp67
            rw [hN69] at hV
            refine si_inc (lv' := [(3, .int (sI (k + 1))), (5, .int (sI (laB f B k))), (4, .int (sI (f (50 + k)))), (0, .ref c), (2, .int (sI z))]) S dX10_layAll_93 hl (k := 4) rfl (by decide) rfl (fun ls hl => ?_)
            refine lv_goto (tgt := 25) hx_ hb_ dX10_layAll_96 (by decide) ?_
            exact ih25 z (k + 1) (tvU tv2 k 5 (laB f B k)) M65 _ _ _ (by omega) (by omega) (by rw [isum_s _ (by omega), ← hz]; show _ = z + (if f (50 + k) ≠ -1 ∧ f (50 + k) ≠ laB f B k then 1 else 0); rw [if_neg (by omega), Int.add_zero]) (lk_t htv (by omega)) hc70 (fun x q0 => (hf71 x (by omega)).trans (hfr25 x (by omega))) hV (lv_sub hl [3, 4, 0] rfl)
          · refine lv_iload hx_ hb_ dX10_layAll_69 (lv_at hl 1 rfl) ?_
            refine lv_iload hx_ hb_ dX10_layAll_71 (lv_at hl 0 rfl) ?_
            refine sb_eq (tgt := 79) S dX10_layAll_73 (by decide) (by omega) (fun c72 => ?_) (fun c72 => ?_)
            · refine lv_aload_n hx_ hb_ dX10_layAll_79 rfl (lv_at hl 2 rfl) ?_
              refine sc_get (ci := 8) (C := RX10) (T := TX10) (n := 11) S hK hV inX10_ hc47 rfl 0 (by decide) (S.2.2.2.2 _ (List.mem_of_getElem? (i := 2) rfl)) rfl rfl dX10_layAll_80 ?_
              refine sc_getN (ci := 4) (C := RX6) (T := TX6) (n := 8) S hK hV inX6_ hc48 rfl 0 (by decide) (E.2.2.2.2.2.1.1.2.1 _ (List.mem_of_getElem? (i := 3) rfl)) rfl rfl dX10_layAll_83 ?_
              refine lv_iload_n hx_ hb_ dX10_layAll_86 rfl (lv_at hl 4 rfl) ?_
              refine si_const S dX10_layAll_87 ?_
              refine lv_iload hx_ hb_ dX10_layAll_88 (lv_at hl 0 rfl) ?_
              refine sk_Vv E hV (As := [.int (sI k), .int (sI 5), .int (sI (laB f B k))]) (rest := []) (kTw l_ G b_ Ml25 N2 (c + 2) 7 (f 568) 70 tv2 k 5 (laB f B k) hm25_0 (by omega) (by omega)) (cwV 3 S.2.2.2.2 gX10_layAll_X8_set rfl rfl rfl (by decide +kernel) ⟨Nat.le_of_ble_eq_true rfl, Nat.le_of_ble_eq_true rfl⟩) (ci := 6) (hm25_0).1 rfl rfl rfl hl.1 (Nat.le_of_ble_eq_true rfl) dX10_layAll_90 (c1 := 15) (s1 := 2900) ⟨⟨rfl, rfl⟩, by decide, by decide⟩ (fun M73 N74 H locs hp75 hV => ?_)
              obtain ⟨hN77, hc78, hf79⟩ := hp75
              rw [hN77] at hV
              refine si_inc (lv' := [(3, .int (sI (k + 1))), (5, .int (sI (laB f B k))), (4, .int (sI (f (50 + k)))), (0, .ref c), (2, .int (sI z))]) S dX10_layAll_93 hl (k := 4) rfl (by decide) rfl (fun ls hl => ?_)
              refine lv_goto (tgt := 25) hx_ hb_ dX10_layAll_96 (by decide) ?_
              exact ih25 z (k + 1) (tvU tv2 k 5 (laB f B k)) M73 _ _ _ (by omega) (by omega) (by rw [isum_s _ (by omega), ← hz]; show _ = z + (if f (50 + k) ≠ -1 ∧ f (50 + k) ≠ laB f B k then 1 else 0); rw [if_neg (by omega), Int.add_zero]) (lk_t htv (by omega)) hc78 (fun x q0 => (hf79 x (by omega)).trans (hfr25 x (by omega))) hV (lv_sub hl [3, 4, 0] rfl)
            · refine si_inc (lv' := [(2, .int (sI (z + 1))), (5, .int (sI (laB f B k))), (4, .int (sI (f (50 + k)))), (0, .ref c), (3, .int (sI k))]) S dX10_layAll_76 hl (k := 3) rfl (by decide) rfl (fun ls hl => ?_)
              refine lv_aload_n hx_ hb_ dX10_layAll_79 rfl (lv_at hl 3 rfl) ?_
              refine sc_get (ci := 8) (C := RX10) (T := TX10) (n := 11) S hK hV inX10_ hc47 rfl 0 (by decide) (S.2.2.2.2 _ (List.mem_of_getElem? (i := 2) rfl)) rfl rfl dX10_layAll_80 ?_
              refine sc_getN (ci := 4) (C := RX6) (T := TX6) (n := 8) S hK hV inX6_ hc48 rfl 0 (by decide) (E.2.2.2.2.2.1.1.2.1 _ (List.mem_of_getElem? (i := 3) rfl)) rfl rfl dX10_layAll_83 ?_
              refine lv_iload_n hx_ hb_ dX10_layAll_86 rfl (lv_at hl 4 rfl) ?_
              refine si_const S dX10_layAll_87 ?_
              refine lv_iload hx_ hb_ dX10_layAll_88 (lv_at hl 1 rfl) ?_
              refine sk_Vv E hV (As := [.int (sI k), .int (sI 5), .int (sI (laB f B k))]) (rest := []) (kTw l_ G b_ Ml25 N2 (c + 2) 7 (f 568) 70 tv2 k 5 (laB f B k) hm25_0 (by omega) (by omega)) (cwV 3 S.2.2.2.2 gX10_layAll_X8_set rfl rfl rfl (by decide +kernel) ⟨Nat.le_of_ble_eq_true rfl, Nat.le_of_ble_eq_true rfl⟩) (ci := 6) (hm25_0).1 rfl rfl rfl hl.1 (Nat.le_of_ble_eq_true rfl) dX10_layAll_90 (c1 := 15) (s1 := 2900) ⟨⟨rfl, rfl⟩, by decide, by decide⟩ (fun M80 N81 H locs hp82 hV => ?_)
              obtain ⟨hN84, hc85, hf86⟩ := hp82
              rw [hN84] at hV
              refine si_inc (lv' := [(3, .int (sI (k + 1))), (2, .int (sI (z + 1))), (5, .int (sI (laB f B k))), (4, .int (sI (f (50 + k)))), (0, .ref c)]) S dX10_layAll_93 hl (k := 4) rfl (by decide) rfl (fun ls hl => ?_)
              refine lv_goto (tgt := 25) hx_ hb_ dX10_layAll_96 (by decide) ?_
              exact ih25 (z + 1) (k + 1) (tvU tv2 k 5 (laB f B k)) M80 _ _ _ (by omega) (by omega) (by rw [isum_s _ (by omega), ← hz]; show _ = z + (if f (50 + k) ≠ -1 ∧ f (50 + k) ≠ laB f B k then 1 else 0); rw [if_pos (by omega)]) (lk_t htv (by omega)) hc85 (fun x q0 => (hf86 x (by omega)).trans (hfr25 x (by omega))) hV (lv_sub hl [4, 1, 0] rfl)
    exact L25 _ 0 0 (tvS f) M17 _ _ _ (Nat.lt_succ_self _) (by omega) (rfl) (fun i j _ _ _ _ => by rw [laK_0]) hx40 (fun x q0 => rfl) hV (lv_sub hl [2, 1, 0] rfl)
  · refine si_const S dX10_layAll_19 ?_
    have hc87 : M17 c = some (xO c kn15 (chn ch)) := (hf35 c (by omega) (by omega) (by omega) (by omega) (by omega) (by omega)).trans hc7
    have hc88 : kpC G M17 (c + 31) kb kn15 (chn ch) (fsn ch fs f) := hc8.fr (fun x q8 => hf35 x (by omega) (by omega) (by omega) (by omega) (by omega) (by omega))
    have hc89 : stC G M17 (c + 1) f := hc16.fr (fun x q8 q9 => hf35 x (by omega) (by omega) (by omega) (by omega) (by omega) (by omega))
    exact sr_i E hQ dX10_layAll_20 ⟨Nat.le_of_ble_eq_true rfl, Nat.le_of_ble_eq_true rfl⟩ hV (⟨_, by omega, hc87, hc88, ⟨_, _, _, _, _, _, _, hc29, hc30, hc31, hc32, hc33, hc34⟩, fun x q0 q1 q2 q3 q4 => (hf35 x (by omega) (by omega) (by omega) (by omega) (by omega) (by omega)).trans (hf9 x (by omega) (by omega) (by omega)), Or.inl ⟨(hF9), rfl, hc89⟩⟩)

abbrev rmX10_errors : Room := { frames := 7, cells := 200, slots := 2000, locals := 178 }
set_option maxHeartbeats 4000000 in
set_option maxRecDepth 100000 in
theorem kX10_errors (l_ : Launch) (G : sG) (b_ : Nat) (M : sM) (N : Nat) (c : Nat) (kn ch : Int) (f : sF) (hc0 : M c = some (xO c kn ch)) (hst : stC G M (c + 1) f) (hft : orfC G M (c + 38)) (hkn : knoC G M (c + 54)) (hok : sOk f) (hI : dI f) (hli : sLi f) : cI l_ yX10_errors wsX10_errors rmX10_errors G b_ M N [.ref c] (fun z_ M1 N1 => z_ = 0 ∧ N1 = N ∧ orfC G M1 (c + 38) ∧ knoC G M1 (c + 54) ∧ (∀ x : Nat, ¬ (c + 38 ≤ x ∧ x < c + 38 + 10) → ¬ (c + 54 ≤ x ∧ x < c + 54 + 3) → M1 x = M x)) := by
  refine sE.ofI (cc := cX10_errors) (nL := 3) (ret := (some .int)) (by decide) rfl (Nat.le_of_ble_eq_true rfl) ?_
  intro p_ e_ s_ m_ args_ below_ meth_ c_ ls Q hQ E hl
  have E : sE p_ l_ e_ rmX10_errors s_ m_ args_ below_ meth_ c_ cX10_errors 3 wsX10_errors RX10 "errors" (some .int) G b_ M N := E
  have S := E.1
  have hx_ := S.1
  have hb_ := S.2.1
  have hK := E.2.2.2.2.1
  have hV := E.2.2.2.2.2.2
  have hl : lv_has ls 3 [(0, .ref c)] := hl
  have inX10_ : ∀ w ∈ wsX100, w ∈ wsX10_errors := fun _ h => List.mem_cons_of_mem _ (List.mem_append_left _ (List.mem_append_left _ (List.mem_append_left _ (List.mem_append_left _ (List.mem_append_right _ h)))))
  have inX6_ : ∀ w ∈ wsX60, w ∈ wsX10_errors := fun _ h => List.mem_cons_of_mem _ (List.mem_append_left _ (List.mem_append_left _ (List.mem_append_left _ (List.mem_append_right _ h))))
  have inX5_ : ∀ w ∈ wsX50, w ∈ wsX10_errors := fun _ h => List.mem_cons_of_mem _ (List.mem_append_left _ (List.mem_append_left _ (List.mem_append_right _ h)))
  have inX8_ : ∀ w ∈ wsX80, w ∈ wsX10_errors := fun _ h => List.mem_cons_of_mem _ (List.mem_append_left _ (List.mem_append_right _ h))
  have inX7_ : ∀ w ∈ wsX70, w ∈ wsX10_errors := fun _ h => List.mem_cons_of_mem _ (List.mem_append_right _ h)
  have hbN : b_ ≤ N := by have h1 := hV.1.1; have h2 := hV.2.2; omega
  have kn0 := sOk_N hok
  have hft2 := hft
  obtain ⟨L0, c0, Fr, So, Ha, Ah, Be, At, Pa, Rc, Rs, h38, h39, h40, h41, h42, h43, h44, h45, h46, h47, hq0, hcr⟩ := hft2
  have hkn2 := hkn
  obtain ⟨c00, F0_, H0_, h54, h55, h56⟩ := hkn2
  refine lv_aload_n hx_ hb_ dX10_errors_0 rfl (lv_at hl 0 rfl) ?_
  refine sc_get (ci := 8) (C := RX10) (T := TX10) (n := 11) S hK hV inX10_ hc0 rfl 7 (by decide) (S.2.2.2.2 _ (List.mem_of_getElem? (i := 1) rfl)) rfl rfl dX10_errors_1 ?_
  refine lv_aload_n hx_ hb_ dX10_errors_4 rfl (lv_at hl 0 rfl) ?_
  refine sc_get (ci := 8) (C := RX10) (T := TX10) (n := 11) S hK hV inX10_ hc0 rfl 0 (by decide) (S.2.2.2.2 _ (List.mem_of_getElem? (i := 2) rfl)) rfl rfl dX10_errors_5 ?_
  refine sk_Vv E hV (As := [.ref (c + 1)]) (rest := []) (kX5_lookAt l_ G b_ M N (c + 38) (c + 1) L0 c0 Fr So Ha Ah Be At Pa Rc Rs f h38 h39 h40 h41 h42 h43 h44 h45 h46 h47 hst (by omega) (by omega) (hq0) (hcr)) (cwV 1 S.2.2.2.2 gX10_errors_X5_lookAt rfl rfl rfl (by decide +kernel) ⟨Nat.le_of_ble_eq_true rfl, Nat.le_of_ble_eq_true rfl⟩) (ci := 3) h38 rfl rfl rfl hl.1 (Nat.le_of_ble_eq_true rfl) dX10_errors_8 (c1 := 0) (s1 := 0) ⟨⟨rfl, rfl⟩, by decide, by decide⟩ (fun M1 N2 H locs hp3 hV => ?_)
  obtain ⟨L95, F96, S97, H98, W99, B910, A911, P912, R913, G914, hN15, hc16, hc17, hc18, hc19, hc20, hc21, hc22, hc23, hc24, hc25, hf26, hd927⟩ := hp3
  rw [hN15] at hV
  have hod := hd927
  have hod2 := hod
  obtain ⟨od1, od2, od3, od4, od5, od6, od7⟩ := hod2
  have hrg := rg_eq (fi_rg hok od7)
  have hrl := hrg.1
  have hfr := fi_r (by omega) od7
  refine lv_aload_n hx_ hb_ dX10_errors_11 rfl (lv_at hl 0 rfl) ?_
  have hc28 : M1 c = some (xO c kn ch) := (hf26 c (by omega) (by omega) (by omega) (by omega) (by omega) (by omega) (by omega) (by omega) (by omega) (by omega)).trans hc0
  refine sc_get (ci := 8) (C := RX10) (T := TX10) (n := 11) S hK hV inX10_ hc28 rfl 7 (by decide) (S.2.2.2.2 _ (List.mem_of_getElem? (i := 1) rfl)) rfl rfl dX10_errors_12 ?_
  refine sk_VP E hV (As := []) (rest := []) (kX5_miscounts l_ G b_ M1 N (c + 38) L95 W99 A911 P912 G914 f hc16 hc20 hc22 hc23 hc25 (by omega) (od4) (od5) (od6) (od7)) (cwV 0 S.2.2.2.2 gX10_errors_X5_miscounts rfl rfl rfl (by decide +kernel) ⟨Nat.le_of_ble_eq_true rfl, Nat.le_of_ble_eq_true rfl⟩) (ci := 3) hc16 rfl rfl rfl hl.1 (Nat.le_of_ble_eq_true rfl) dX10_errors_15 (c1 := 0) (s1 := 0) ⟨⟨rfl, rfl⟩, by decide, by decide⟩ (fun H locs hV => ?_)
  refine lv_istore_n (lv' := [(1, .int (sI 0)), (0, .ref c)]) hx_ hb_ dX10_errors_18 rfl hl (by decide) rfl (fun ls hl => ?_)
  refine si_const S dX10_errors_19 ?_
  refine lv_istore_n (lv' := [(2, .int (sI 0)), (1, .int (sI 0)), (0, .ref c)]) hx_ hb_ dX10_errors_20 rfl hl (by decide) rfl (fun ls hl => ?_)
  have L21 : ∀ (fuel : Nat) (z : Int) (d : Int)  (H : Heap) (locs : List Loc) (ls : Array Slot), ((4 - d).toNat) < fuel → (0 ≤ d ∧ d ≤ 4) → (z = 0) → sV G b_ M1 N s_ H locs → lv_has ls 3 [(0, .ref c), (1, .int (sI z)), (2, .int (sI d))] → W p_ l_ e_ rmX10_errors s_ m_ args_ below_ meth_ c_ H locs 0 0 Q (F0 m_ 21 ls []) := by
    intro fuel
    induction fuel with
    | zero => intro z d H locs ls hmu; exact absurd hmu (Nat.not_lt_zero _)
    | succ fuel ih21 =>
      intro z d H locs ls hmu21 hv21_0 hz  hV hl
      refine lv_iload_n hx_ hb_ dX10_errors_21 rfl (lv_at hl 2 rfl) ?_
      refine si_const S dX10_errors_22 ?_
      refine sb_ge (tgt := 46) S dX10_errors_23 (by decide) (by omega) (fun c29 => ?_) (fun c29 => ?_)
      · refine si_const S dX10_errors_46 ?_
        refine lv_istore_n (lv' := [(2, .int (sI 0)), (0, .ref c), (1, .int (sI z))]) hx_ hb_ dX10_errors_47 rfl hl (by decide) rfl (fun ls hl => ?_)
        have L48 : ∀ (fuel : Nat) (z2 : Int) (i : Int) (c1 : Int) (F1 : Int → Int) (H1 : Int → Int) (Ml48 : sM) (H : Heap) (locs : List Loc) (ls : Array Slot), ((f 568 - i).toNat) < fuel → (0 ≤ i ∧ i ≤ f 568) → (z2 = 0) → (Ml48 (c + 54) = some (sObj 5 [.ref (c + 55), .ref (c + 56), .int (sI c1)])) → (Ml48 (c + 55) = some (sArr G 61 F1)) → (Ml48 (c + 56) = some (sArr G 61 H1)) → (∀ x : Nat, ¬ (c + 54 ≤ x ∧ x < c + 54 + 3) → Ml48 x = M1 x) → sV G b_ Ml48 N s_ H locs → lv_has ls 3 [(0, .ref c), (1, .int (sI z2)), (2, .int (sI i))] → W p_ l_ e_ rmX10_errors s_ m_ args_ below_ meth_ c_ H locs 0 0 Q (F0 m_ 48 ls []) := by
          intro fuel
          induction fuel with
          | zero => intro z2 i c1 F1 H1 Ml48 H locs ls hmu; exact absurd hmu (Nat.not_lt_zero _)
          | succ fuel ih48 =>
            intro z2 i c1 F1 H1 Ml48 H locs ls hmu48 hv48_0 hz2 hm48_0 hm48_1 hm48_2 hfr48 hV hl
            refine lv_iload_n hx_ hb_ dX10_errors_48 rfl (lv_at hl 2 rfl) ?_
            refine lv_aload_n hx_ hb_ dX10_errors_49 rfl (lv_at hl 0 rfl) ?_
            have hc30 : Ml48 c = some (xO c kn ch) := (hfr48 c (by omega)).trans hc28
            refine sc_get (ci := 8) (C := RX10) (T := TX10) (n := 11) S hK hV inX10_ hc30 rfl 0 (by decide) (S.2.2.2.2 _ (List.mem_of_getElem? (i := 2) rfl)) rfl rfl dX10_errors_50 ?_
            have hc31 : stC G Ml48 (c + 1) f := hst.fr (fun x q8 q9 => (hfr48 x (by omega)).trans (hf26 x (by omega) (by omega) (by omega) (by omega) (by omega) (by omega) (by omega) (by omega) (by omega) (by omega)))
            refine sc_getN (ci := 4) (C := RX6) (T := TX6) (n := 8) S hK hV inX6_ (hc31).1 rfl 0 (by decide) (E.2.2.2.2.2.1.1.2.1 _ (List.mem_of_getElem? (i := 3) rfl)) rfl rfl dX10_errors_53 ?_
            refine sk_VP E hV (As := []) (rest := [.int (sI i)]) (kTs l_ G b_ Ml48 N (c + 2) 7 (f 568) 70 (tvS f) ((hc31).2.1)) (cwV 0 S.2.2.2.2 gX10_errors_X8_size rfl rfl rfl (by decide +kernel) ⟨Nat.le_of_ble_eq_true rfl, Nat.le_of_ble_eq_true rfl⟩) (ci := 6) ((hc31).2.1).1 rfl rfl rfl hl.1 (Nat.le_of_ble_eq_true rfl) dX10_errors_56 (c1 := 0) (s1 := 0) ⟨⟨rfl, rfl⟩, by decide, by decide⟩ (fun H locs hV => ?_)
            refine sb_ge (tgt := 124) S dX10_errors_59 (by decide) (by omega) (fun c32 => ?_) (fun c32 => ?_)
            · refine lv_iload_n hx_ hb_ dX10_errors_124 rfl (lv_at hl 1 rfl) ?_
              have hc33 : Ml48 (c + 38) = some (sObj 3 [.ref (c + 39), .ref (c + 40), .ref (c + 41), .ref (c + 42), .ref (c + 43), .ref (c + 44), .ref (c + 45), .ref (c + 46), .ref (c + 47), .int (sI L95), .int (sI (f 568))]) := (hfr48 (c + 38) (by omega)).trans hc16
              have hc34 : Ml48 (c + 39) = some (sArr G 10 F96) := (hfr48 (c + 39) (by omega)).trans hc17
              have hc35 : Ml48 (c + 40) = some (sArr G 10 S97) := (hfr48 (c + 40) (by omega)).trans hc18
              have hc36 : Ml48 (c + 41) = some (sArr G 10 H98) := (hfr48 (c + 41) (by omega)).trans hc19
              have hc37 : Ml48 (c + 42) = some (sArr G 1024 W99) := (hfr48 (c + 42) (by omega)).trans hc20
              have hc38 : Ml48 (c + 43) = some (sArr G 1024 B910) := (hfr48 (c + 43) (by omega)).trans hc21
              have hc39 : Ml48 (c + 44) = some (sArr G 100 A911) := (hfr48 (c + 44) (by omega)).trans hc22
              have hc40 : Ml48 (c + 45) = some (sArr G 100 P912) := (hfr48 (c + 45) (by omega)).trans hc23
              have hc41 : Ml48 (c + 46) = some (sArr G 11 R913) := (hfr48 (c + 46) (by omega)).trans hc24
              have hc42 : Ml48 (c + 47) = some (sArr G 10 G914) := (hfr48 (c + 47) (by omega)).trans hc25
              exact sr_i E hQ dX10_errors_125 ⟨Nat.le_of_ble_eq_true rfl, Nat.le_of_ble_eq_true rfl⟩ hV (⟨hz2, rfl, ⟨_, _, _, _, _, _, _, _, _, _, _, hc33, hc34, hc35, hc36, hc37, hc38, hc39, hc40, hc41, hc42, od_q hod, by omega, by omega⟩, ⟨_, _, _, hm48_0, hm48_1, hm48_2⟩, fun x q0 q1 => (hfr48 x (by omega)).trans (hf26 x (by omega) (by omega) (by omega) (by omega) (by omega) (by omega) (by omega) (by omega) (by omega) (by omega))⟩)
            · refine lv_aload_n hx_ hb_ dX10_errors_62 rfl (lv_at hl 0 rfl) ?_
              refine sc_get (ci := 8) (C := RX10) (T := TX10) (n := 11) S hK hV inX10_ hc30 rfl 0 (by decide) (S.2.2.2.2 _ (List.mem_of_getElem? (i := 2) rfl)) rfl rfl dX10_errors_63 ?_
              refine lv_iload_n hx_ hb_ dX10_errors_66 rfl (lv_at hl 2 rfl) ?_
              refine lv_aload_n hx_ hb_ dX10_errors_67 rfl (lv_at hl 0 rfl) ?_
              refine sc_get (ci := 8) (C := RX10) (T := TX10) (n := 11) S hK hV inX10_ hc30 rfl 0 (by decide) (S.2.2.2.2 _ (List.mem_of_getElem? (i := 2) rfl)) rfl rfl dX10_errors_68 ?_
              refine sc_getN (ci := 4) (C := RX6) (T := TX6) (n := 8) S hK hV inX6_ (hc31).1 rfl 0 (by decide) (E.2.2.2.2.2.1.1.2.1 _ (List.mem_of_getElem? (i := 3) rfl)) rfl rfl dX10_errors_71 ?_
              refine lv_iload_n hx_ hb_ dX10_errors_74 rfl (lv_at hl 2 rfl) ?_
              refine si_bipush S dX10_errors_75 (by decide) ?_
              refine sk_VP E hV (As := [.int (sI i), .int (sI 6)]) (rest := [.int (sI i), .ref (c + 1)]) (kTg l_ G b_ Ml48 N (c + 2) 7 (f 568) 70 (tvS f) i 6 (f (60 + i)) ((hc31).2.1) (by omega) (by omega) (tvS_6 f i)) (cwV 2 S.2.2.2.2 gX10_errors_X8_get rfl rfl rfl (by decide +kernel) ⟨Nat.le_of_ble_eq_true rfl, Nat.le_of_ble_eq_true rfl⟩) (ci := 6) ((hc31).2.1).1 rfl rfl rfl hl.1 (Nat.le_of_ble_eq_true rfl) dX10_errors_77 (c1 := 0) (s1 := 0) ⟨⟨rfl, rfl⟩, by decide, by decide⟩ (fun H locs hV => ?_)
              have kn43 : 0 ≤ f (60 + i) ∧ f (60 + i) ≤ 100000 := (sOk_S hok i (by omega) (by omega)).2.2.2.2.2.2
              refine sk_SP E hV (As := [.ref (c + 1), .int (sI i), .int (sI (f (60 + i)))]) (rest := []) (kX4_isOver l_ G b_ Ml48 N (c + 1) f i (f (60 + i)) hc31 (by omega) (by omega)) (va_cwS 3 S.2.2.2.2 gX10_errors_X4_isOver rfl rfl rfl (by decide +kernel) ⟨Nat.le_of_ble_eq_true rfl, Nat.le_of_ble_eq_true rfl⟩) rfl rfl hl.1 (Nat.le_of_ble_eq_true rfl) dX10_errors_80 (c1 := 0) (s1 := 0) ⟨⟨rfl, rfl⟩, by decide, by decide⟩ (fun H locs hV => ?_)
              refine sq_eq (tgt := 89) S dX10_errors_83 (by decide) (fun _ => ?_) (fun c44 => absurd c44 (by exact fun q => (ov_i hok (by omega)).mp q (fun y a b => hli i y (by omega) (by omega) (by omega) (by omega))))
              refine lv_aload_n hx_ hb_ dX10_errors_89 rfl (lv_at hl 0 rfl) ?_
              refine sc_get (ci := 8) (C := RX10) (T := TX10) (n := 11) S hK hV inX10_ hc30 rfl 9 (by decide) (S.2.2.2.2 _ (List.mem_of_getElem? (i := 3) rfl)) rfl rfl dX10_errors_90 ?_
              refine lv_aload_n hx_ hb_ dX10_errors_93 rfl (lv_at hl 0 rfl) ?_
              refine sc_get (ci := 8) (C := RX10) (T := TX10) (n := 11) S hK hV inX10_ hc30 rfl 0 (by decide) (S.2.2.2.2 _ (List.mem_of_getElem? (i := 2) rfl)) rfl rfl dX10_errors_94 ?_
              refine lv_iload_n hx_ hb_ dX10_errors_97 rfl (lv_at hl 2 rfl) ?_
              refine lv_aload_n hx_ hb_ dX10_errors_98 rfl (lv_at hl 0 rfl) ?_
              refine sc_get (ci := 8) (C := RX10) (T := TX10) (n := 11) S hK hV inX10_ hc30 rfl 0 (by decide) (S.2.2.2.2 _ (List.mem_of_getElem? (i := 2) rfl)) rfl rfl dX10_errors_99 ?_
              refine sc_getN (ci := 4) (C := RX6) (T := TX6) (n := 8) S hK hV inX6_ (hc31).1 rfl 7 (by decide) (E.2.2.2.2.2.1.1.2.1 _ (List.mem_of_getElem? (i := 14) rfl)) rfl rfl dX10_errors_102 ?_
              refine sk_Vv E hV (As := [.ref (c + 1), .int (sI i), .int (sI (f 571))]) (rest := []) (kX7_lookAt l_ G b_ Ml48 N (c + 54) (c + 1) c1 F1 H1 f i (f 571) hm48_0 hm48_1 hm48_2 hc31 (by omega) (by omega) (by omega)) (cwV 3 S.2.2.2.2 gX10_errors_X7_lookAt rfl rfl rfl (by decide +kernel) ⟨Nat.le_of_ble_eq_true rfl, Nat.le_of_ble_eq_true rfl⟩) (ci := 5) hm48_0 rfl rfl rfl hl.1 (Nat.le_of_ble_eq_true rfl) dX10_errors_105 (c1 := 0) (s1 := 0) ⟨⟨rfl, rfl⟩, by decide, by decide⟩ (fun M45 N46 H locs hp47 hV => ?_)
              obtain ⟨c949, F950, H951, hN52, hc53, hc54, hc55, hf56, hsk957⟩ := hp47
              rw [hN52] at hV
              have hsk9 := hsk957
              have hseg := seg_eq hsk9.1
              have hskc := hsk9.2.1
              refine lv_iload_n hx_ hb_ dX10_errors_108 rfl (lv_at hl 1 rfl) ?_
              refine lv_aload_n hx_ hb_ dX10_errors_109 rfl (lv_at hl 0 rfl) ?_
              have hc58 : M45 c = some (xO c kn ch) := (hf56 c (by omega) (by omega) (by omega)).trans hc30
              refine sc_get (ci := 8) (C := RX10) (T := TX10) (n := 11) S hK hV inX10_ hc58 rfl 9 (by decide) (S.2.2.2.2 _ (List.mem_of_getElem? (i := 3) rfl)) rfl rfl dX10_errors_110 ?_
              refine sk_VP E hV (As := []) (rest := [.int (sI z2)]) (kX7_gaps l_ G b_ M45 N (c + 54) c949 F950 H951 (fun x => hnd f i x (f 571)) hc53 hc54 hc55 (hsk9)) (cwV 0 S.2.2.2.2 gX10_errors_X7_gaps rfl rfl rfl (by decide +kernel) ⟨Nat.le_of_ble_eq_true rfl, Nat.le_of_ble_eq_true rfl⟩) (ci := 5) hc53 rfl rfl rfl hl.1 (Nat.le_of_ble_eq_true rfl) dX10_errors_113 (c1 := 0) (s1 := 0) ⟨⟨rfl, rfl⟩, by decide, by decide⟩ (fun H locs hV => ?_)
              refine si_add S dX10_errors_116 ?_
              refine lv_istore_n (lv' := [(1, .int (sI (z2 + 0))), (0, .ref c), (2, .int (sI i))]) hx_ hb_ dX10_errors_117 rfl hl (by decide) rfl (fun ls hl => ?_)
              refine si_inc (lv' := [(2, .int (sI (i + 1))), (1, .int (sI (z2 + 0))), (0, .ref c)]) S dX10_errors_118 hl (k := 2) rfl (by decide) rfl (fun ls hl => ?_)
              refine lv_goto (tgt := 48) hx_ hb_ dX10_errors_121 (by decide) ?_
              exact ih48 (z2 + 0) (i + 1) c949 F950 H951 M45 _ _ _ (by omega) (by omega) (by omega) hc53 hc54 hc55 (fun x q0 => (hf56 x (by omega) (by omega) (by omega)).trans (hfr48 x (by omega))) hV (lv_sub hl [2, 1, 0] rfl)
        have hc59 : M1 (c + 54) = some (sObj 5 [.ref (c + 55), .ref (c + 56), .int (sI c00)]) := (hf26 (c + 54) (by omega) (by omega) (by omega) (by omega) (by omega) (by omega) (by omega) (by omega) (by omega) (by omega)).trans h54
        have hc60 : M1 (c + 55) = some (sArr G 61 F0_) := (hf26 (c + 55) (by omega) (by omega) (by omega) (by omega) (by omega) (by omega) (by omega) (by omega) (by omega) (by omega)).trans h55
        have hc61 : M1 (c + 56) = some (sArr G 61 H0_) := (hf26 (c + 56) (by omega) (by omega) (by omega) (by omega) (by omega) (by omega) (by omega) (by omega) (by omega) (by omega)).trans h56
        exact L48 _ z 0 c00 F0_ H0_ M1 _ _ _ (Nat.lt_succ_self _) (by omega) (hz) hc59 hc60 hc61 (fun x q0 => rfl) hV (lv_sub hl [1, 2, 0] rfl)
      · refine lv_aload_n hx_ hb_ dX10_errors_26 rfl (lv_at hl 0 rfl) ?_
        refine sc_get (ci := 8) (C := RX10) (T := TX10) (n := 11) S hK hV inX10_ hc28 rfl 0 (by decide) (S.2.2.2.2 _ (List.mem_of_getElem? (i := 2) rfl)) rfl rfl dX10_errors_27 ?_
        refine lv_iload_n hx_ hb_ dX10_errors_30 rfl (lv_at hl 2 rfl) ?_
        have hc62 : stC G M1 (c + 1) f := hst.fr (fun x q8 q9 => hf26 x (by omega) (by omega) (by omega) (by omega) (by omega) (by omega) (by omega) (by omega) (by omega) (by omega))
        refine sk_VP E hV (As := [.int (sI d)]) (rest := []) (kX6_whyNot l_ G b_ M1 N (c + 1) f d hc62 (by omega) (by omega)) (cwV 1 S.2.2.2.2 gX10_errors_X6_whyNot rfl rfl rfl (by decide +kernel) ⟨Nat.le_of_ble_eq_true rfl, Nat.le_of_ble_eq_true rfl⟩) (ci := 4) (hc62).1 rfl rfl rfl hl.1 (Nat.le_of_ble_eq_true rfl) dX10_errors_31 (c1 := 0) (s1 := 0) ⟨⟨rfl, rfl⟩, by decide, by decide⟩ (fun H locs hV => ?_)
        rw [hI d (by omega) (by omega)]
        refine sz_eq (tgt := 40) S dX10_errors_34 (by decide) (by omega) (fun _ => ?_) (fun c63 => absurd c63 (by omega))
        refine si_inc (lv' := [(2, .int (sI (d + 1))), (0, .ref c), (1, .int (sI z))]) S dX10_errors_40 hl (k := 2) rfl (by decide) rfl (fun ls hl => ?_)
        refine lv_goto (tgt := 21) hx_ hb_ dX10_errors_43 (by decide) ?_
        exact ih21 z (d + 1) _ _ _ (by omega) (by omega) (hz) hV (lv_sub hl [1, 2, 0] rfl)
  exact L21 _ 0 0 _ _ _ (Nat.lt_succ_self _) (by omega) (rfl) hV (lv_sub hl [2, 1, 0] rfl)
