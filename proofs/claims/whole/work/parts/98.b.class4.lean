/-! The class: what changes. -/
theorem takn_c {t : Int} (h : 0 ≤ t) : (takn t = -1 ↔ t = 0) ∧ -1 ≤ takn t ∧ takn t ≤ max 0 t := by
  unfold takn
  split <;> omega
theorem md_r (f : sF) (s Y x l : Int) : 0 ≤ mdI f s Y x l ∧ mdI f s Y x l ≤ 400 := by
  unfold mdI
  rcases idx_cases (fun n => ¬ cbP f s Y x (n + 1) l) 400 with ⟨a, -⟩ | ⟨a, b, -, -⟩
  · rw [a, if_pos rfl]; omega
  · rw [if_neg (by omega)]; omega

abbrev rmX10_scratch : Room := { frames := 8, cells := 25, slots := 3000, locals := 143 }
set_option maxHeartbeats 4000000 in
set_option maxRecDepth 100000 in
theorem kX10_scratch (l_ : Launch) (G : sG) (b_ : Nat) (M : sM) (N : Nat) (c : Nat) (kn ch : Int) (f : sF) (kb : Nat) (fs : Int → sF) (p q : Int) (hc0 : M c = some (xO c kn ch)) (hst : stC G M (c + 1) f) (hkp : kpC G M (c + 31) kb kn ch fs) (hlt : l_.stackTraces = false) (hok : sOk f) (hkb : c + 60 ≤ kb) (hkN : kb ≤ N) (hr : sR p ∧ sR q) : xcI l_ yX10_scratch wsX10_scratch rmX10_scratch G b_ M N [.ref c, .int (sI p), .int (sI q)] (fun z_ M1 N1 => ∃ kn1 : Int, N ≤ N1 ∧ (∀ x : Nat, ¬ (x = c) → ¬ (x = c + 31) → ¬ (kb ≤ x) → ¬ (c + 1 ≤ x ∧ x < c + 1 + 15) → M1 x = M x) ∧ (((((0 ≤ p ∧ p < f 568) ∧ (0 ≤ q ∧ q < f 568)) ∧ p ≠ q ∧ f 569 < 40) ∧ z_ = f 569 ∧ M1 c = some (xO c kn1 (chn ch)) ∧ stC G M1 (c + 1) (scF f p q) ∧ kpC G M1 (c + 31) kb kn1 (chn ch) (fsn ch fs f)))) (fun E_ M1 N1 => ∃ kn1 : Int, N ≤ N1 ∧ (∀ x : Nat, ¬ (x = c) → ¬ (x = c + 31) → ¬ (kb ≤ x) → ¬ (c + 1 ≤ x ∧ x < c + 1 + 15) → M1 x = M x) ∧ (((¬ ((0 ≤ p ∧ p < f 568) ∧ (0 ≤ q ∧ q < f 568))) ∧ E_ = "java/lang/IndexOutOfBoundsException" ∧ M1 c = some (xO c kn1 ch) ∧ stC G M1 (c + 1) f ∧ kpC G M1 (c + 31) kb kn1 ch fs) ∨ ((((0 ≤ p ∧ p < f 568) ∧ (0 ≤ q ∧ q < f 568)) ∧ p = q) ∧ E_ = "java/lang/IllegalArgumentException" ∧ M1 c = some (xO c kn1 ch) ∧ stC G M1 (c + 1) f ∧ kpC G M1 (c + 31) kb kn1 ch fs) ∨ ((((0 ≤ p ∧ p < f 568) ∧ (0 ≤ q ∧ q < f 568)) ∧ p ≠ q ∧ 40 ≤ f 569) ∧ E_ = "java/lang/IllegalStateException" ∧ M1 c = some (xO c kn1 ch) ∧ stC G M1 (c + 1) f ∧ kpC G M1 (c + 31) kb kn1 ch fs))) := by
  refine xcE.ofI (cc := cX10_scratch) (nL := 4) (ret := (some .int)) (by decide) rfl (Nat.le_of_ble_eq_true rfl) ?_
  intro p_ e_ s_ m_ args_ below_ meth_ c_ ls Q hQ E hF_ hxt_ hl
  have E : sE p_ l_ e_ rmX10_scratch s_ m_ args_ below_ meth_ c_ cX10_scratch 4 wsX10_scratch RX10 "scratch" (some .int) G b_ M N := E
  have S := E.1
  have hx_ := S.1
  have hb_ := S.2.1
  have hK := E.2.2.2.2.1
  have hV := E.2.2.2.2.2.2
  have hl : lv_has ls 4 [(0, .ref c), (1, .int (sI p)), (2, .int (sI q))] := hl
  have inX10_ : ∀ w ∈ wsX100, w ∈ wsX10_scratch := fun _ h => List.mem_cons_of_mem _ (List.mem_append_left _ (List.mem_append_left _ (List.mem_append_left _ (List.mem_append_left _ (List.mem_append_left _ (List.mem_append_right _ h))))))
  have inX6_ : ∀ w ∈ wsX60, w ∈ wsX10_scratch := fun _ h => List.mem_cons_of_mem _ (List.mem_append_left _ (List.mem_append_left _ (List.mem_append_left _ (List.mem_append_left _ (List.mem_append_right _ h)))))
  have inX8_ : ∀ w ∈ wsX80, w ∈ wsX10_scratch := fun _ h => List.mem_cons_of_mem _ (List.mem_append_left _ (List.mem_append_left _ (List.mem_append_left _ (List.mem_append_right _ h))))
  have hbN : b_ ≤ N := by have h1 := hV.1.1; have h2 := hV.2.2; omega
  have kn0 := sOk_N hok
  refine lv_aload_n hx_ hb_ dX10_scratch_0 rfl (lv_at hl 0 rfl) ?_
  refine lv_iload_n hx_ hb_ dX10_scratch_1 rfl (lv_at hl 1 rfl) ?_
  refine lv_iload_n hx_ hb_ dX10_scratch_2 rfl (lv_at hl 2 rfl) ?_
  refine xk_Vv E hF_ hxt_ hQ hV (As := [.int (sI p), .int (sI q)]) (rest := []) (kX10_needTwoStones l_ G b_ M N c kn ch f p q hc0 hst (by omega) (by omega) (by omega) (by omega)) (cwV 2 S.2.2.2.2 gX10_scratch_X10_needTwoStones rfl rfl rfl (by decide +kernel) ⟨Nat.le_of_ble_eq_true rfl, Nat.le_of_ble_eq_true rfl⟩) (ci := 8) hc0 rfl rfl rfl hl.1 (Nat.le_of_ble_eq_true rfl) dX10_scratch_3 (c1 := 3) (s1 := 18) ⟨⟨rfl, rfl⟩, by decide, by decide⟩ ⟨Nat.le_of_ble_eq_true rfl, Nat.le_of_ble_eq_true rfl⟩ ?_ (fun M1 N2 H locs hp3 hV => ?_)
  · rintro E9 M9 N9 ⟨hN5, hf6, hq7⟩
    rcases hq7 with ⟨c8, ee9⟩ | ⟨c10, ee11⟩
    · have hc12 : M9 c = some (xO c kn ch) := (hf6 c ).trans hc0
      have hc13 : stC G M9 (c + 1) f := hst.fr (fun x q8 q9 => hf6 x )
      have hc14 : kpC G M9 (c + 31) kb kn ch fs := hkp.fr (fun x q8 => hf6 x )
      exact ⟨_, by omega, fun x q0 q1 q2 q3 => hf6 x , Or.inl ⟨(by first | exact c8 | omega), ee9, hc12, hc13, hc14⟩⟩
    · have hc15 : M9 c = some (xO c kn ch) := (hf6 c ).trans hc0
      have hc16 : stC G M9 (c + 1) f := hst.fr (fun x q8 q9 => hf6 x )
      have hc17 : kpC G M9 (c + 31) kb kn ch fs := hkp.fr (fun x q8 => hf6 x )
      exact ⟨_, by omega, fun x q0 q1 q2 q3 => hf6 x , Or.inr (Or.inl ⟨(by first | exact c10 | omega), ee11, hc15, hc16, hc17⟩)⟩
  obtain ⟨hN18, hf19, hq20⟩ := hp3
  rw [hN18] at hV
  rcases hq20 with c21
  · refine lv_aload_n hx_ hb_ dX10_scratch_6 rfl (lv_at hl 0 rfl) ?_
    have hc22 : M1 c = some (xO c kn ch) := (hf19 c ).trans hc0
    refine sc_get (ci := 8) (C := RX10) (T := TX10) (n := 11) S hK hV inX10_ hc22 rfl 0 (by decide) (S.2.2.2.2 _ (List.mem_of_getElem? (i := 3) rfl)) rfl rfl dX10_scratch_7 ?_
    have hc23 : stC G M1 (c + 1) f := hst.fr (fun x q8 q9 => hf19 x )
    refine sc_getN (ci := 4) (C := RX6) (T := TX6) (n := 8) S hK hV inX6_ (hc23).1 rfl 1 (by decide) (E.2.2.2.2.2.1.1.2.1 _ (List.mem_of_getElem? (i := 6) rfl)) rfl rfl dX10_scratch_10 ?_
    refine sk_VP E hV (As := []) (rest := []) (kTf l_ G b_ M1 N (c + 4) 2 (f 569) 80 (tvC f) (40 ≤ f 569) ((hc23).2.2.1) (by omega) (by omega)) (cwV 0 S.2.2.2.2 gX10_scratch_X8_isFull rfl rfl rfl (by decide +kernel) ⟨Nat.le_of_ble_eq_true rfl, Nat.le_of_ble_eq_true rfl⟩) (ci := 6) ((hc23).2.2.1).1 rfl rfl rfl hl.1 (Nat.le_of_ble_eq_true rfl) dX10_scratch_13 (c1 := 3) (s1 := 18) ⟨⟨rfl, rfl⟩, by decide, by decide⟩ (fun H locs hV => ?_)
    refine sq_eq (tgt := 29) S dX10_scratch_16 (by decide) (fun c24 => ?_) (fun c24 => ?_)
    · refine lv_aload_n hx_ hb_ dX10_scratch_29 rfl (lv_at hl 0 rfl) ?_
      have hc25 : kpC G M1 (c + 31) kb kn ch fs := hkp.fr (fun x q8 => hf19 x )
      refine sk_Vv E hV (As := []) (rest := []) (kX10_keepState l_ G b_ M1 N c kn ch f kb fs hc22 hc23 hc25 (by omega) (by omega) (by omega)) (cwV 0 S.2.2.2.2 gX10_scratch_X10_keepState rfl rfl rfl (by decide +kernel) ⟨Nat.le_of_ble_eq_true rfl, Nat.le_of_ble_eq_true rfl⟩) (ci := 8) hc22 rfl rfl rfl hl.1 (Nat.le_of_ble_eq_true rfl) dX10_scratch_30 (c1 := 18) (s1 := 2918) ⟨⟨rfl, rfl⟩, by decide, by decide⟩ (fun M26 N27 H locs hp28 hV => ?_)
      obtain ⟨kn130, hN31, hc32, hc33, hf34⟩ := hp28
      refine lv_aload_n hx_ hb_ dX10_scratch_33 rfl (lv_at hl 0 rfl) ?_
      refine sc_get (ci := 8) (C := RX10) (T := TX10) (n := 11) S hK hV inX10_ hc32 rfl 0 (by decide) (S.2.2.2.2 _ (List.mem_of_getElem? (i := 3) rfl)) rfl rfl dX10_scratch_34 ?_
      have hc35 : stC G M26 (c + 1) f := hc23.fr (fun x q8 q9 => hf34 x (by omega) (by omega) (by omega))
      refine sc_getN (ci := 4) (C := RX6) (T := TX6) (n := 8) S hK hV inX6_ (hc35).1 rfl 1 (by decide) (E.2.2.2.2.2.1.1.2.1 _ (List.mem_of_getElem? (i := 6) rfl)) rfl rfl dX10_scratch_37 ?_
      have hx36 : M26 (c + 1) = some (sObj 4 [.ref (c + 2), .ref (c + 4), .ref (c + 6), .ref (c + 8), .ref (c + 10), .ref (c + 12), .ref (c + 14), .int (sI (f 571))]) := (hc35).1
      have hx37 : stK G M26 (c + 2) 7 (f 568) 70 (tvS f) := (hc35).2.1
      have hx38 : stK G M26 (c + 4) 2 (f 569) 80 (tvC f) := (hc35).2.2.1
      have hx39 : stK G M26 (c + 6) 2 4 8 (tvD f) := (hc35).2.2.2.1
      have hx40 : stK G M26 (c + 8) 6 6 36 (tvP f) := (hc35).2.2.2.2.1
      have hx41 : stK G M26 (c + 10) 5 (f 570) 300 (tvT f) := (hc35).2.2.2.2.2.1
      have hx42 : stK G M26 (c + 12) 4 (f 572) 80 (tvW f) := (hc35).2.2.2.2.2.2.1
      have hx43 : stK G M26 (c + 14) 3 (f 573) 24 (tvO f) := (hc35).2.2.2.2.2.2.2
      refine sk_Vi E hV (As := []) (rest := []) (kTa l_ G b_ M26 N27 (c + 4) 2 (f 569) 80 (tvC f) hx38 (by omega)) (cwV 0 S.2.2.2.2 gX10_scratch_X8_add rfl rfl rfl (by decide +kernel) ⟨Nat.le_of_ble_eq_true rfl, Nat.le_of_ble_eq_true rfl⟩) (ci := 6) (hx38).1 rfl rfl rfl hl.1 (Nat.le_of_ble_eq_true rfl) dX10_scratch_40 (c1 := 18) (s1 := 2918) ⟨⟨rfl, rfl⟩, by decide, by decide⟩ (fun z47 M44 N45 H locs hp46 hV => ?_)
      obtain ⟨ez48, hN49, hc50, hf51⟩ := hp46
      rw [hN49] at hV
      rw [ez48]
      refine lv_istore_n (lv' := [(3, .int (sI (f 569))), (0, .ref c), (1, .int (sI p)), (2, .int (sI q))]) hx_ hb_ dX10_scratch_43 rfl hl (by decide) rfl (fun ls hl => ?_)
      refine lv_aload_n hx_ hb_ dX10_scratch_44 rfl (lv_at hl 1 rfl) ?_
      have hc52 : M44 c = some (xO c kn130 (chn ch)) := (hf51 c (by omega) (by omega)).trans hc32
      refine sc_get (ci := 8) (C := RX10) (T := TX10) (n := 11) S hK hV inX10_ hc52 rfl 0 (by decide) (S.2.2.2.2 _ (List.mem_of_getElem? (i := 3) rfl)) rfl rfl dX10_scratch_45 ?_
      have hc53 : M44 (c + 1) = some (sObj 4 [.ref (c + 2), .ref (c + 4), .ref (c + 6), .ref (c + 8), .ref (c + 10), .ref (c + 12), .ref (c + 14), .int (sI (f 571))]) := (hf51 (c + 1) (by omega) (by omega)).trans hx36
      refine sc_getN (ci := 4) (C := RX6) (T := TX6) (n := 8) S hK hV inX6_ hc53 rfl 1 (by decide) (E.2.2.2.2.2.1.1.2.1 _ (List.mem_of_getElem? (i := 6) rfl)) rfl rfl dX10_scratch_48 ?_
      refine lv_iload_n hx_ hb_ dX10_scratch_51 rfl (lv_at hl 0 rfl) ?_
      refine si_const S dX10_scratch_52 ?_
      refine lv_iload_n hx_ hb_ dX10_scratch_53 rfl (lv_at hl 2 rfl) ?_
      refine sk_Vv E hV (As := [.int (sI (f 569)), .int (sI 0), .int (sI p)]) (rest := []) (kTw l_ G b_ M44 N27 (c + 4) 2 ((f 569) + 1) 80 (tvZ (tvC f) (f 569)) (f 569) 0 p hc50 (by omega) (by omega)) (cwV 3 S.2.2.2.2 gX10_scratch_X8_set rfl rfl rfl (by decide +kernel) ⟨Nat.le_of_ble_eq_true rfl, Nat.le_of_ble_eq_true rfl⟩) (ci := 6) (hc50).1 rfl rfl rfl hl.1 (Nat.le_of_ble_eq_true rfl) dX10_scratch_54 (c1 := 18) (s1 := 2918) ⟨⟨rfl, rfl⟩, by decide, by decide⟩ (fun M54 N55 H locs hp56 hV => ?_)
      obtain ⟨hN58, hc59, hf60⟩ := hp56
      rw [hN58] at hV
      refine lv_aload_n hx_ hb_ dX10_scratch_57 rfl (lv_at hl 1 rfl) ?_
      have hc61 : M54 c = some (xO c kn130 (chn ch)) := (hf60 c (by omega)).trans hc52
      refine sc_get (ci := 8) (C := RX10) (T := TX10) (n := 11) S hK hV inX10_ hc61 rfl 0 (by decide) (S.2.2.2.2 _ (List.mem_of_getElem? (i := 3) rfl)) rfl rfl dX10_scratch_58 ?_
      have hc62 : M54 (c + 1) = some (sObj 4 [.ref (c + 2), .ref (c + 4), .ref (c + 6), .ref (c + 8), .ref (c + 10), .ref (c + 12), .ref (c + 14), .int (sI (f 571))]) := (hf60 (c + 1) (by omega)).trans hc53
      refine sc_getN (ci := 4) (C := RX6) (T := TX6) (n := 8) S hK hV inX6_ hc62 rfl 1 (by decide) (E.2.2.2.2.2.1.1.2.1 _ (List.mem_of_getElem? (i := 6) rfl)) rfl rfl dX10_scratch_61 ?_
      refine lv_iload_n hx_ hb_ dX10_scratch_64 rfl (lv_at hl 0 rfl) ?_
      refine si_const S dX10_scratch_65 ?_
      refine lv_iload_n hx_ hb_ dX10_scratch_66 rfl (lv_at hl 3 rfl) ?_
      refine sk_Vv E hV (As := [.int (sI (f 569)), .int (sI 1), .int (sI q)]) (rest := []) (kTw l_ G b_ M54 N27 (c + 4) 2 ((f 569) + 1) 80 (tvU (tvZ (tvC f) (f 569)) (f 569) 0 p) (f 569) 1 q hc59 (by omega) (by omega)) (cwV 3 S.2.2.2.2 gX10_scratch_X8_set rfl rfl rfl (by decide +kernel) ⟨Nat.le_of_ble_eq_true rfl, Nat.le_of_ble_eq_true rfl⟩) (ci := 6) (hc59).1 rfl rfl rfl hl.1 (Nat.le_of_ble_eq_true rfl) dX10_scratch_67 (c1 := 18) (s1 := 2918) ⟨⟨rfl, rfl⟩, by decide, by decide⟩ (fun M63 N64 H locs hp65 hV => ?_)
      obtain ⟨hN67, hc68, hf69⟩ := hp65
      rw [hN67] at hV
      refine lv_iload_n hx_ hb_ dX10_scratch_70 rfl (lv_at hl 0 rfl) ?_
      have hc70 : M63 (c + 1) = some (sObj 4 [.ref (c + 2), .ref (c + 4), .ref (c + 6), .ref (c + 8), .ref (c + 10), .ref (c + 12), .ref (c + 14), .int (sI (f 571))]) := (hf69 (c + 1) (by omega)).trans hc62
      have hc71 : stK G M63 (c + 2) 7 (f 568) 70 (tvS f) := hx37.fr (fun x q8 q9 => ((hf69 x (by omega)).trans (hf60 x (by omega))).trans (hf51 x (by omega) (by omega)))
      have hc72 : stK G M63 (c + 6) 2 4 8 (tvD f) := hx39.fr (fun x q8 q9 => ((hf69 x (by omega)).trans (hf60 x (by omega))).trans (hf51 x (by omega) (by omega)))
      have hc73 : stK G M63 (c + 8) 6 6 36 (tvP f) := hx40.fr (fun x q8 q9 => ((hf69 x (by omega)).trans (hf60 x (by omega))).trans (hf51 x (by omega) (by omega)))
      have hc74 : stK G M63 (c + 10) 5 (f 570) 300 (tvT f) := hx41.fr (fun x q8 q9 => ((hf69 x (by omega)).trans (hf60 x (by omega))).trans (hf51 x (by omega) (by omega)))
      have hc75 : stK G M63 (c + 12) 4 (f 572) 80 (tvW f) := hx42.fr (fun x q8 q9 => ((hf69 x (by omega)).trans (hf60 x (by omega))).trans (hf51 x (by omega) (by omega)))
      have hc76 : stK G M63 (c + 14) 3 (f 573) 24 (tvO f) := hx43.fr (fun x q8 q9 => ((hf69 x (by omega)).trans (hf60 x (by omega))).trans (hf51 x (by omega) (by omega)))
      have hc77 : M63 c = some (xO c kn130 (chn ch)) := (hf69 c (by omega)).trans hc61
      have hc78 : kpC G M63 (c + 31) kb kn130 (chn ch) (fsn ch fs f) := hc33.fr (fun x q8 => ((hf69 x (by omega)).trans (hf60 x (by omega))).trans (hf51 x (by omega) (by omega)))
      exact xr_i E hQ dX10_scratch_71 ⟨Nat.le_of_ble_eq_true rfl, Nat.le_of_ble_eq_true rfl⟩ hV (⟨_, by omega, fun x q0 q1 q2 q3 => ((((hf69 x (by omega)).trans (hf60 x (by omega))).trans (hf51 x (by omega) (by omega))).trans (hf34 x (by omega) (by omega) (by omega))).trans (hf19 x ), ⟨(by omega), rfl, hc77, stC_u1 kn0 hc70 hc71 (by rw [show (scF f p q) 569 = f 569 + 1 from by unfold scF iup; (repeat (first | rw [if_pos (by omega)] | rw [if_neg (by omega)]))]; exact hc68.c (fun i j q1 q2 q3 q4 => scF_t (by omega) i j (by omega) (by omega))) hc72 hc73 hc74 hc75 hc76 (fun q w1 w2 w3 w4 => by unfold scF iup; (repeat (first | rw [if_pos (by omega)] | rw [if_neg (by omega)]))), hc78⟩⟩)
    · have hc79 : kpC G M1 (c + 31) kb kn ch fs := hkp.fr (fun x q8 => hf19 x )
      exact xt_S (own := RX10) (rest := []) E hF_ hxt_ hQ hlt (ik := 80) (is := 161) (ic := 84) (cls := "java/lang/IllegalStateException") (text := "40 scratches are told") (by decide +kernel) xg_IS (List.mem_of_getElem? (i := 1) rfl) (List.mem_of_getElem? (i := 2) rfl) (fun _ h => List.mem_cons_of_mem _ (List.mem_append_left _ (List.mem_append_left _ (List.mem_append_right _ h)))) (List.mem_of_getElem? (i := 6) rfl) hl.1 dX10_scratch_19 dX10_scratch_22 dX10_scratch_23 dX10_scratch_25 dX10_scratch_28 ⟨Nat.le_of_ble_eq_true rfl, Nat.le_of_ble_eq_true rfl, Nat.le_of_ble_eq_true rfl, Nat.le_of_ble_eq_true rfl⟩ ⟨Nat.le_of_ble_eq_true rfl, Nat.le_of_ble_eq_true rfl⟩ hV (fun N9 h9 => ⟨_, by omega, fun x q0 q1 q2 q3 => hf19 x , Or.inr (Or.inr (⟨(by first | omega | assumption), rfl, hc22, hc23, hc79⟩))⟩)

abbrev rmX10_unscratch : Room := { frames := 6, cells := 25, slots := 3000, locals := 125 }
set_option maxHeartbeats 4000000 in
set_option maxRecDepth 100000 in
theorem kX10_unscratch (l_ : Launch) (G : sG) (b_ : Nat) (M : sM) (N : Nat) (c : Nat) (kn ch : Int) (f : sF) (kb : Nat) (fs : Int → sF) (a0 : Int) (hc0 : M c = some (xO c kn ch)) (hst : stC G M (c + 1) f) (hkp : kpC G M (c + 31) kb kn ch fs) (hlt : l_.stackTraces = false) (hok : sOk f) (hkb : c + 60 ≤ kb) (hkN : kb ≤ N) (hr : sR a0) : xcI l_ yX10_unscratch wsX10_unscratch rmX10_unscratch G b_ M N [.ref c, .int (sI a0)] (fun z_ M1 N1 => ∃ kn1 : Int, N ≤ N1 ∧ (∀ x : Nat, ¬ (x = c) → ¬ (x = c + 31) → ¬ (kb ≤ x) → ¬ (c + 1 ≤ x ∧ x < c + 1 + 15) → M1 x = M x) ∧ ((((0 ≤ a0 ∧ a0 < f 569)) ∧ z_ = f 569 - 1 ∧ M1 c = some (xO c kn1 (chn ch)) ∧ stC G M1 (c + 1) (usF f a0) ∧ kpC G M1 (c + 31) kb kn1 (chn ch) (fsn ch fs f)))) (fun E_ M1 N1 => ∃ kn1 : Int, N ≤ N1 ∧ (∀ x : Nat, ¬ (x = c) → ¬ (x = c + 31) → ¬ (kb ≤ x) → ¬ (c + 1 ≤ x ∧ x < c + 1 + 15) → M1 x = M x) ∧ (((¬ (0 ≤ a0 ∧ a0 < f 569)) ∧ E_ = "java/lang/IndexOutOfBoundsException" ∧ M1 c = some (xO c kn1 ch) ∧ stC G M1 (c + 1) f ∧ kpC G M1 (c + 31) kb kn1 ch fs))) := by
  refine xcE.ofI (cc := cX10_unscratch) (nL := 2) (ret := (some .int)) (by decide) rfl (Nat.le_of_ble_eq_true rfl) ?_
  intro p_ e_ s_ m_ args_ below_ meth_ c_ ls Q hQ E hF_ hxt_ hl
  have E : sE p_ l_ e_ rmX10_unscratch s_ m_ args_ below_ meth_ c_ cX10_unscratch 2 wsX10_unscratch RX10 "unscratch" (some .int) G b_ M N := E
  have S := E.1
  have hx_ := S.1
  have hb_ := S.2.1
  have hK := E.2.2.2.2.1
  have hV := E.2.2.2.2.2.2
  have hl : lv_has ls 2 [(0, .ref c), (1, .int (sI a0))] := hl
  have inX10_ : ∀ w ∈ wsX100, w ∈ wsX10_unscratch := fun _ h => List.mem_cons_of_mem _ (List.mem_append_left _ (List.mem_append_left _ (List.mem_append_left _ (List.mem_append_right _ h))))
  have inX6_ : ∀ w ∈ wsX60, w ∈ wsX10_unscratch := fun _ h => List.mem_cons_of_mem _ (List.mem_append_left _ (List.mem_append_left _ (List.mem_append_right _ h)))
  have inX8_ : ∀ w ∈ wsX80, w ∈ wsX10_unscratch := fun _ h => List.mem_cons_of_mem _ (List.mem_append_left _ (List.mem_append_right _ h))
  have hbN : b_ ≤ N := by have h1 := hV.1.1; have h2 := hV.2.2; omega
  have kn0 := sOk_N hok
  refine lv_aload_n hx_ hb_ dX10_unscratch_0 rfl (lv_at hl 0 rfl) ?_
  refine sc_get (ci := 8) (C := RX10) (T := TX10) (n := 11) S hK hV inX10_ hc0 rfl 0 (by decide) (S.2.2.2.2 _ (List.mem_of_getElem? (i := 3) rfl)) rfl rfl dX10_unscratch_1 ?_
  refine sc_getN (ci := 4) (C := RX6) (T := TX6) (n := 8) S hK hV inX6_ (hst).1 rfl 1 (by decide) (E.2.2.2.2.2.1.1.2.1 _ (List.mem_of_getElem? (i := 6) rfl)) rfl rfl dX10_unscratch_4 ?_
  refine lv_iload_n hx_ hb_ dX10_unscratch_7 rfl (lv_at hl 1 rfl) ?_
  refine sk_VP E hV (As := [.int (sI a0)]) (rest := []) (kTh l_ G b_ M N (c + 4) 2 (f 569) 80 (tvC f) a0 ((hst).2.2.1) (by omega)) (cwV 1 S.2.2.2.2 gX10_unscratch_X8_has rfl rfl rfl (by decide +kernel) ⟨Nat.le_of_ble_eq_true rfl, Nat.le_of_ble_eq_true rfl⟩) (ci := 6) ((hst).2.2.1).1 rfl rfl rfl hl.1 (Nat.le_of_ble_eq_true rfl) dX10_unscratch_8 (c1 := 0) (s1 := 0) ⟨⟨rfl, rfl⟩, by decide, by decide⟩ (fun H locs hV => ?_)
  refine sq_ne (tgt := 24) S dX10_unscratch_11 (by decide) (fun c1 => ?_) (fun c1 => ?_)
  · refine lv_aload_n hx_ hb_ dX10_unscratch_24 rfl (lv_at hl 0 rfl) ?_
    refine sk_Vv E hV (As := []) (rest := []) (kX10_keepState l_ G b_ M N c kn ch f kb fs hc0 hst hkp (by omega) (by omega) (by omega)) (cwV 0 S.2.2.2.2 gX10_unscratch_X10_keepState rfl rfl rfl (by decide +kernel) ⟨Nat.le_of_ble_eq_true rfl, Nat.le_of_ble_eq_true rfl⟩) (ci := 8) hc0 rfl rfl rfl hl.1 (Nat.le_of_ble_eq_true rfl) dX10_unscratch_25 (c1 := 15) (s1 := 2900) ⟨⟨rfl, rfl⟩, by decide, by decide⟩ (fun M2 N3 H locs hp4 hV => ?_)
    obtain ⟨kn16, hN7, hc8, hc9, hf10⟩ := hp4
    refine lv_aload_n hx_ hb_ dX10_unscratch_28 rfl (lv_at hl 0 rfl) ?_
    refine sc_get (ci := 8) (C := RX10) (T := TX10) (n := 11) S hK hV inX10_ hc8 rfl 0 (by decide) (S.2.2.2.2 _ (List.mem_of_getElem? (i := 3) rfl)) rfl rfl dX10_unscratch_29 ?_
    have hc11 : stC G M2 (c + 1) f := hst.fr (fun x q8 q9 => hf10 x (by omega) (by omega) (by omega))
    refine sc_getN (ci := 4) (C := RX6) (T := TX6) (n := 8) S hK hV inX6_ (hc11).1 rfl 1 (by decide) (E.2.2.2.2.2.1.1.2.1 _ (List.mem_of_getElem? (i := 6) rfl)) rfl rfl dX10_unscratch_32 ?_
    refine lv_iload_n hx_ hb_ dX10_unscratch_35 rfl (lv_at hl 1 rfl) ?_
    have hx12 : M2 (c + 1) = some (sObj 4 [.ref (c + 2), .ref (c + 4), .ref (c + 6), .ref (c + 8), .ref (c + 10), .ref (c + 12), .ref (c + 14), .int (sI (f 571))]) := (hc11).1
    have hx13 : stK G M2 (c + 2) 7 (f 568) 70 (tvS f) := (hc11).2.1
    have hx14 : stK G M2 (c + 4) 2 (f 569) 80 (tvC f) := (hc11).2.2.1
    have hx15 : stK G M2 (c + 6) 2 4 8 (tvD f) := (hc11).2.2.2.1
    have hx16 : stK G M2 (c + 8) 6 6 36 (tvP f) := (hc11).2.2.2.2.1
    have hx17 : stK G M2 (c + 10) 5 (f 570) 300 (tvT f) := (hc11).2.2.2.2.2.1
    have hx18 : stK G M2 (c + 12) 4 (f 572) 80 (tvW f) := (hc11).2.2.2.2.2.2.1
    have hx19 : stK G M2 (c + 14) 3 (f 573) 24 (tvO f) := (hc11).2.2.2.2.2.2.2
    refine sk_Vv E hV (As := [.int (sI a0)]) (rest := []) (kTr l_ G b_ M2 N3 (c + 4) 2 (f 569) 80 (tvC f) a0 hx14 (by omega) (by omega)) (cwV 1 S.2.2.2.2 gX10_unscratch_X8_remove rfl rfl rfl (by decide +kernel) ⟨Nat.le_of_ble_eq_true rfl, Nat.le_of_ble_eq_true rfl⟩) (ci := 6) (hx14).1 rfl rfl rfl hl.1 (Nat.le_of_ble_eq_true rfl) dX10_unscratch_36 (c1 := 15) (s1 := 2900) ⟨⟨rfl, rfl⟩, by decide, by decide⟩ (fun M20 N21 H locs hp22 hV => ?_)
    obtain ⟨hN24, hc25, hf26⟩ := hp22
    rw [hN24] at hV
    refine lv_aload_n hx_ hb_ dX10_unscratch_39 rfl (lv_at hl 0 rfl) ?_
    have hc27 : M20 c = some (xO c kn16 (chn ch)) := (hf26 c (by omega) (by omega)).trans hc8
    refine sc_get (ci := 8) (C := RX10) (T := TX10) (n := 11) S hK hV inX10_ hc27 rfl 0 (by decide) (S.2.2.2.2 _ (List.mem_of_getElem? (i := 3) rfl)) rfl rfl dX10_unscratch_40 ?_
    have hc28 : M20 (c + 1) = some (sObj 4 [.ref (c + 2), .ref (c + 4), .ref (c + 6), .ref (c + 8), .ref (c + 10), .ref (c + 12), .ref (c + 14), .int (sI (f 571))]) := (hf26 (c + 1) (by omega) (by omega)).trans hx12
    refine sc_getN (ci := 4) (C := RX6) (T := TX6) (n := 8) S hK hV inX6_ hc28 rfl 1 (by decide) (E.2.2.2.2.2.1.1.2.1 _ (List.mem_of_getElem? (i := 6) rfl)) rfl rfl dX10_unscratch_43 ?_
    refine sk_VP E hV (As := []) (rest := []) (kTs l_ G b_ M20 N3 (c + 4) 2 ((f 569) - 1) 80 (tvR (tvC f) a0) hc25) (cwV 0 S.2.2.2.2 gX10_unscratch_X8_size rfl rfl rfl (by decide +kernel) ⟨Nat.le_of_ble_eq_true rfl, Nat.le_of_ble_eq_true rfl⟩) (ci := 6) (hc25).1 rfl rfl rfl hl.1 (Nat.le_of_ble_eq_true rfl) dX10_unscratch_46 (c1 := 15) (s1 := 2900) ⟨⟨rfl, rfl⟩, by decide, by decide⟩ (fun H locs hV => ?_)
    have hc29 : stK G M20 (c + 2) 7 (f 568) 70 (tvS f) := hx13.fr (fun x q8 q9 => hf26 x (by omega) (by omega))
    have hc30 : stK G M20 (c + 6) 2 4 8 (tvD f) := hx15.fr (fun x q8 q9 => hf26 x (by omega) (by omega))
    have hc31 : stK G M20 (c + 8) 6 6 36 (tvP f) := hx16.fr (fun x q8 q9 => hf26 x (by omega) (by omega))
    have hc32 : stK G M20 (c + 10) 5 (f 570) 300 (tvT f) := hx17.fr (fun x q8 q9 => hf26 x (by omega) (by omega))
    have hc33 : stK G M20 (c + 12) 4 (f 572) 80 (tvW f) := hx18.fr (fun x q8 q9 => hf26 x (by omega) (by omega))
    have hc34 : stK G M20 (c + 14) 3 (f 573) 24 (tvO f) := hx19.fr (fun x q8 q9 => hf26 x (by omega) (by omega))
    have hc35 : kpC G M20 (c + 31) kb kn16 (chn ch) (fsn ch fs f) := hc9.fr (fun x q8 => hf26 x (by omega) (by omega))
    exact xr_i E hQ dX10_unscratch_49 ⟨Nat.le_of_ble_eq_true rfl, Nat.le_of_ble_eq_true rfl⟩ hV (⟨_, by omega, fun x q0 q1 q2 q3 => (hf26 x (by omega) (by omega)).trans (hf10 x (by omega) (by omega) (by omega)), ⟨(by omega), rfl, hc27, stC_u1 kn0 hc28 hc29 (by rw [show (usF f a0) 569 = f 569 - 1 from by unfold usF usK; (repeat (first | rw [if_pos (by omega)] | rw [if_neg (by omega)]))]; exact hc25.c (fun i j q1 q2 q3 q4 => usF_t (by omega) i j (by omega) (by omega))) hc30 hc31 hc32 hc33 hc34 (fun q w1 w2 w3 w4 => by unfold usF usK; (repeat (first | rw [if_pos (by omega)] | rw [if_neg (by omega)]))), hc35⟩⟩)
  · exact xt_S (own := RX10) (rest := []) E hF_ hxt_ hQ hlt (ik := 173) (is := 175) (ic := 177) (cls := "java/lang/IndexOutOfBoundsException") (text := "no such scratch") (by decide +kernel) xg_IO (List.mem_of_getElem? (i := 1) rfl) (List.mem_of_getElem? (i := 2) rfl) (fun _ h => List.mem_cons_of_mem _ (List.mem_append_right _ h)) (List.mem_of_getElem? (i := 7) rfl) hl.1 dX10_unscratch_14 dX10_unscratch_17 dX10_unscratch_18 dX10_unscratch_20 dX10_unscratch_23 ⟨Nat.le_of_ble_eq_true rfl, Nat.le_of_ble_eq_true rfl, Nat.le_of_ble_eq_true rfl, Nat.le_of_ble_eq_true rfl⟩ ⟨Nat.le_of_ble_eq_true rfl, Nat.le_of_ble_eq_true rfl⟩ hV (fun N9 h9 => ⟨_, by omega, fun x q0 q1 q2 q3 => rfl, ⟨(by first | omega | assumption), rfl, hc0, hst, hkp⟩⟩)

abbrev rmX10_setDrawer : Room := { frames := 7, cells := 25, slots := 3000, locals := 125 }
set_option maxHeartbeats 4000000 in
set_option maxRecDepth 100000 in
theorem kX10_setDrawer (l_ : Launch) (G : sG) (b_ : Nat) (M : sM) (N : Nat) (c : Nat) (kn ch : Int) (f : sF) (kb : Nat) (fs : Int → sF) (d z v : Int) (hc0 : M c = some (xO c kn ch)) (hst : stC G M (c + 1) f) (hkp : kpC G M (c + 31) kb kn ch fs) (hlt : l_.stackTraces = false) (hok : sOk f) (hkb : c + 60 ≤ kb) (hkN : kb ≤ N) (hr : sR d ∧ sR z ∧ sR v) : xcI l_ yX10_setDrawer wsX10_setDrawer rmX10_setDrawer G b_ M N [.ref c, .int (sI d), .int (sI z), .int (sI v)] (fun z_ M1 N1 => ∃ kn1 : Int, N ≤ N1 ∧ (∀ x : Nat, ¬ (x = c) → ¬ (x = c + 31) → ¬ (kb ≤ x) → ¬ (c + 1 ≤ x ∧ x < c + 1 + 15) → M1 x = M x) ∧ (((((0 ≤ d ∧ d ≤ 3) ∧ (0 ≤ z ∧ z ≤ 99) ∧ (0 ≤ v ∧ v ≤ 999)) ∧ isum (f 568) (lyT f d 1) ≤ z ∧ isum (f 568) (lyT f d 2) ≤ v) ∧ z_ = f (150 + d) ∧ M1 c = some (xO c kn1 (chn ch)) ∧ stC G M1 (c + 1) (sdF f d z v) ∧ kpC G M1 (c + 31) kb kn1 (chn ch) (fsn ch fs f)))) (fun E_ M1 N1 => ∃ kn1 : Int, N ≤ N1 ∧ (∀ x : Nat, ¬ (x = c) → ¬ (x = c + 31) → ¬ (kb ≤ x) → ¬ (c + 1 ≤ x ∧ x < c + 1 + 15) → M1 x = M x) ∧ (((¬ ((0 ≤ d ∧ d ≤ 3) ∧ (0 ≤ z ∧ z ≤ 99) ∧ (0 ≤ v ∧ v ≤ 999))) ∧ E_ = "java/lang/IllegalArgumentException" ∧ M1 c = some (xO c kn1 ch) ∧ stC G M1 (c + 1) f ∧ kpC G M1 (c + 31) kb kn1 ch fs) ∨ ((((0 ≤ d ∧ d ≤ 3) ∧ (0 ≤ z ∧ z ≤ 99) ∧ (0 ≤ v ∧ v ≤ 999)) ∧ ¬ (isum (f 568) (lyT f d 1) ≤ z ∧ isum (f 568) (lyT f d 2) ≤ v)) ∧ E_ = "java/lang/IllegalStateException" ∧ M1 c = some (xO c kn1 ch) ∧ stC G M1 (c + 1) f ∧ kpC G M1 (c + 31) kb kn1 ch fs))) := by
  refine xcE.ofI (cc := cX10_setDrawer) (nL := 5) (ret := (some .int)) (by decide) rfl (Nat.le_of_ble_eq_true rfl) ?_
  intro p_ e_ s_ m_ args_ below_ meth_ c_ ls Q hQ E hF_ hxt_ hl
  have E : sE p_ l_ e_ rmX10_setDrawer s_ m_ args_ below_ meth_ c_ cX10_setDrawer 5 wsX10_setDrawer RX10 "setDrawer" (some .int) G b_ M N := E
  have S := E.1
  have hx_ := S.1
  have hb_ := S.2.1
  have hK := E.2.2.2.2.1
  have hV := E.2.2.2.2.2.2
  have hl : lv_has ls 5 [(0, .ref c), (1, .int (sI d)), (2, .int (sI z)), (3, .int (sI v))] := hl
  have inX10_ : ∀ w ∈ wsX100, w ∈ wsX10_setDrawer := fun _ h => List.mem_cons_of_mem _ (List.mem_append_left _ (List.mem_append_left _ (List.mem_append_left _ (List.mem_append_left _ (List.mem_append_right _ h)))))
  have inX6_ : ∀ w ∈ wsX60, w ∈ wsX10_setDrawer := fun _ h => List.mem_cons_of_mem _ (List.mem_append_left _ (List.mem_append_left _ (List.mem_append_left _ (List.mem_append_right _ h))))
  have inX8_ : ∀ w ∈ wsX80, w ∈ wsX10_setDrawer := fun _ h => List.mem_cons_of_mem _ (List.mem_append_left _ (List.mem_append_left _ (List.mem_append_right _ h)))
  have hbN : b_ ≤ N := by have h1 := hV.1.1; have h2 := hV.2.2; omega
  have kn0 := sOk_N hok
  have b1 := ly_r hok d 1 (f 568) (by omega) (by omega)
  have b2 := ly_r hok d 2 (f 568) (by omega) (by omega)
  refine lv_iload_n hx_ hb_ dX10_setDrawer_0 rfl (lv_at hl 1 rfl) ?_
  refine si_const S dX10_setDrawer_1 ?_
  refine si_const S dX10_setDrawer_2 ?_
  refine xk_Sv E hF_ hxt_ hQ hV (As := [.int (sI d), .int (sI 0), .int (sI 3)]) (rest := []) (kX10_needRange l_ G b_ M N d 0 3 (by omega) (by omega)) (va_cwS 3 S.2.2.2.2 gX10_setDrawer_X10_needRange rfl rfl rfl (by decide +kernel) ⟨Nat.le_of_ble_eq_true rfl, Nat.le_of_ble_eq_true rfl⟩) rfl rfl hl.1 (Nat.le_of_ble_eq_true rfl) dX10_setDrawer_3 (c1 := 1) (s1 := 6) ⟨⟨rfl, rfl⟩, by decide, by decide⟩ ⟨Nat.le_of_ble_eq_true rfl, Nat.le_of_ble_eq_true rfl⟩ ?_ (fun M1 N2 H locs hp3 hV => ?_)
  · rintro E9 M9 N9 ⟨hN5, hf6, hq7⟩
    rcases hq7 with ⟨c8, ee9⟩
    · have hc10 : M9 c = some (xO c kn ch) := (hf6 c ).trans hc0
      have hc11 : stC G M9 (c + 1) f := hst.fr (fun x q8 q9 => hf6 x )
      have hc12 : kpC G M9 (c + 31) kb kn ch fs := hkp.fr (fun x q8 => hf6 x )
      exact ⟨_, by omega, fun x q0 q1 q2 q3 => hf6 x , Or.inl ⟨(by first | exact c8 | omega), ee9, hc10, hc11, hc12⟩⟩
  obtain ⟨hN13, hf14, hq15⟩ := hp3
  rw [hN13] at hV
  rcases hq15 with c16
  · refine lv_iload_n hx_ hb_ dX10_setDrawer_6 rfl (lv_at hl 2 rfl) ?_
    refine si_const S dX10_setDrawer_7 ?_
    refine si_bipush S dX10_setDrawer_8 (by decide) ?_
    refine xk_Sv E hF_ hxt_ hQ hV (As := [.int (sI z), .int (sI 0), .int (sI 99)]) (rest := []) (kX10_needRange l_ G b_ M1 N z 0 99 (by omega) (by omega)) (va_cwS 3 S.2.2.2.2 gX10_setDrawer_X10_needRange rfl rfl rfl (by decide +kernel) ⟨Nat.le_of_ble_eq_true rfl, Nat.le_of_ble_eq_true rfl⟩) rfl rfl hl.1 (Nat.le_of_ble_eq_true rfl) dX10_setDrawer_10 (c1 := 2) (s1 := 12) ⟨⟨rfl, rfl⟩, by decide, by decide⟩ ⟨Nat.le_of_ble_eq_true rfl, Nat.le_of_ble_eq_true rfl⟩ ?_ (fun M17 N18 H locs hp19 hV => ?_)
    · rintro E9 M9 N9 ⟨hN21, hf22, hq23⟩
      rcases hq23 with ⟨c24, ee25⟩
      · have hc26 : M9 c = some (xO c kn ch) := ((hf22 c ).trans (hf14 c )).trans hc0
        have hc27 : stC G M9 (c + 1) f := hst.fr (fun x q8 q9 => (hf22 x ).trans (hf14 x ))
        have hc28 : kpC G M9 (c + 31) kb kn ch fs := hkp.fr (fun x q8 => (hf22 x ).trans (hf14 x ))
        exact ⟨_, by omega, fun x q0 q1 q2 q3 => (hf22 x ).trans (hf14 x ), Or.inl ⟨(by first | exact c24 | omega), ee25, hc26, hc27, hc28⟩⟩
    obtain ⟨hN29, hf30, hq31⟩ := hp19
    rw [hN29] at hV
    rcases hq31 with c32
    · refine lv_iload_n hx_ hb_ dX10_setDrawer_13 rfl (lv_at hl 3 rfl) ?_
      refine si_const S dX10_setDrawer_14 ?_
      refine si_sipush S dX10_setDrawer_15 (by decide) ?_
      refine xk_Sv E hF_ hxt_ hQ hV (As := [.int (sI v), .int (sI 0), .int (sI 999)]) (rest := []) (kX10_needRange l_ G b_ M17 N v 0 999 (by omega) (by omega)) (va_cwS 3 S.2.2.2.2 gX10_setDrawer_X10_needRange rfl rfl rfl (by decide +kernel) ⟨Nat.le_of_ble_eq_true rfl, Nat.le_of_ble_eq_true rfl⟩) rfl rfl hl.1 (Nat.le_of_ble_eq_true rfl) dX10_setDrawer_18 (c1 := 3) (s1 := 18) ⟨⟨rfl, rfl⟩, by decide, by decide⟩ ⟨Nat.le_of_ble_eq_true rfl, Nat.le_of_ble_eq_true rfl⟩ ?_ (fun M33 N34 H locs hp35 hV => ?_)
      · rintro E9 M9 N9 ⟨hN37, hf38, hq39⟩
        rcases hq39 with ⟨c40, ee41⟩
        · have hc42 : M9 c = some (xO c kn ch) := (((hf38 c ).trans (hf30 c )).trans (hf14 c )).trans hc0
          have hc43 : stC G M9 (c + 1) f := hst.fr (fun x q8 q9 => ((hf38 x ).trans (hf30 x )).trans (hf14 x ))
          have hc44 : kpC G M9 (c + 31) kb kn ch fs := hkp.fr (fun x q8 => ((hf38 x ).trans (hf30 x )).trans (hf14 x ))
          exact ⟨_, by omega, fun x q0 q1 q2 q3 => ((hf38 x ).trans (hf30 x )).trans (hf14 x ), Or.inl ⟨(by first | exact c40 | omega), ee41, hc42, hc43, hc44⟩⟩
      obtain ⟨hN45, hf46, hq47⟩ := hp35
      rw [hN45] at hV
      rcases hq47 with c48
      · refine lv_aload_n hx_ hb_ dX10_setDrawer_21 rfl (lv_at hl 0 rfl) ?_
        have hc49 : M33 c = some (xO c kn ch) := (((hf46 c ).trans (hf30 c )).trans (hf14 c )).trans hc0
        refine sc_get (ci := 8) (C := RX10) (T := TX10) (n := 11) S hK hV inX10_ hc49 rfl 0 (by decide) (S.2.2.2.2 _ (List.mem_of_getElem? (i := 3) rfl)) rfl rfl dX10_setDrawer_22 ?_
        refine lv_iload_n hx_ hb_ dX10_setDrawer_25 rfl (lv_at hl 1 rfl) ?_
        refine si_const S dX10_setDrawer_26 ?_
        have hc50 : stC G M33 (c + 1) f := hst.fr (fun x q8 q9 => ((hf46 x ).trans (hf30 x )).trans (hf14 x ))
        refine sk_VP E hV (As := [.int (sI d), .int (sI 1)]) (rest := []) (kX6_sumIn l_ G b_ M33 N (c + 1) f d 1 hc50 (by omega) (by omega) (by omega)) (cwV 2 S.2.2.2.2 gX10_setDrawer_X6_sumIn rfl rfl rfl (by decide +kernel) ⟨Nat.le_of_ble_eq_true rfl, Nat.le_of_ble_eq_true rfl⟩) (ci := 4) (hc50).1 rfl rfl rfl hl.1 (Nat.le_of_ble_eq_true rfl) dX10_setDrawer_27 (c1 := 3) (s1 := 18) ⟨⟨rfl, rfl⟩, by decide, by decide⟩ (fun H locs hV => ?_)
        refine lv_iload_n hx_ hb_ dX10_setDrawer_30 rfl (lv_at hl 2 rfl) ?_
        refine sb_gt (tgt := 47) S dX10_setDrawer_31 (by decide) (by omega) (fun c51 => ?_) (fun c51 => ?_)
        · have hc52 : kpC G M33 (c + 31) kb kn ch fs := hkp.fr (fun x q8 => ((hf46 x ).trans (hf30 x )).trans (hf14 x ))
          exact xt_S (own := RX10) (rest := []) E hF_ hxt_ hQ hlt (ik := 80) (is := 217) (ic := 84) (cls := "java/lang/IllegalStateException") (text := "more lies in the drawer") (by decide +kernel) xg_IS (List.mem_of_getElem? (i := 1) rfl) (List.mem_of_getElem? (i := 2) rfl) (fun _ h => List.mem_cons_of_mem _ (List.mem_append_left _ (List.mem_append_right _ h))) (List.mem_of_getElem? (i := 10) rfl) hl.1 dX10_setDrawer_47 dX10_setDrawer_50 dX10_setDrawer_51 dX10_setDrawer_53 dX10_setDrawer_56 ⟨Nat.le_of_ble_eq_true rfl, Nat.le_of_ble_eq_true rfl, Nat.le_of_ble_eq_true rfl, Nat.le_of_ble_eq_true rfl⟩ ⟨Nat.le_of_ble_eq_true rfl, Nat.le_of_ble_eq_true rfl⟩ hV (fun N9 h9 => ⟨_, by omega, fun x q0 q1 q2 q3 => ((hf46 x ).trans (hf30 x )).trans (hf14 x ), Or.inr (⟨(by first | omega | assumption), rfl, hc49, hc50, hc52⟩)⟩)
        · refine lv_aload_n hx_ hb_ dX10_setDrawer_34 rfl (lv_at hl 0 rfl) ?_
          refine sc_get (ci := 8) (C := RX10) (T := TX10) (n := 11) S hK hV inX10_ hc49 rfl 0 (by decide) (S.2.2.2.2 _ (List.mem_of_getElem? (i := 3) rfl)) rfl rfl dX10_setDrawer_35 ?_
          refine lv_iload_n hx_ hb_ dX10_setDrawer_38 rfl (lv_at hl 1 rfl) ?_
          refine si_const S dX10_setDrawer_39 ?_
          refine sk_VP E hV (As := [.int (sI d), .int (sI 2)]) (rest := []) (kX6_sumIn l_ G b_ M33 N (c + 1) f d 2 hc50 (by omega) (by omega) (by omega)) (cwV 2 S.2.2.2.2 gX10_setDrawer_X6_sumIn rfl rfl rfl (by decide +kernel) ⟨Nat.le_of_ble_eq_true rfl, Nat.le_of_ble_eq_true rfl⟩) (ci := 4) (hc50).1 rfl rfl rfl hl.1 (Nat.le_of_ble_eq_true rfl) dX10_setDrawer_40 (c1 := 3) (s1 := 18) ⟨⟨rfl, rfl⟩, by decide, by decide⟩ (fun H locs hV => ?_)
          refine lv_iload_n hx_ hb_ dX10_setDrawer_43 rfl (lv_at hl 3 rfl) ?_
          refine sb_le (tgt := 57) S dX10_setDrawer_44 (by decide) (by omega) (fun c53 => ?_) (fun c53 => ?_)
          · refine lv_aload_n hx_ hb_ dX10_setDrawer_57 rfl (lv_at hl 0 rfl) ?_
            have hc54 : kpC G M33 (c + 31) kb kn ch fs := hkp.fr (fun x q8 => ((hf46 x ).trans (hf30 x )).trans (hf14 x ))
            refine sk_Vv E hV (As := []) (rest := []) (kX10_keepState l_ G b_ M33 N c kn ch f kb fs hc49 hc50 hc54 (by omega) (by omega) (by omega)) (cwV 0 S.2.2.2.2 gX10_setDrawer_X10_keepState rfl rfl rfl (by decide +kernel) ⟨Nat.le_of_ble_eq_true rfl, Nat.le_of_ble_eq_true rfl⟩) (ci := 8) hc49 rfl rfl rfl hl.1 (Nat.le_of_ble_eq_true rfl) dX10_setDrawer_58 (c1 := 18) (s1 := 2918) ⟨⟨rfl, rfl⟩, by decide, by decide⟩ (fun M55 N56 H locs hp57 hV => ?_)
            obtain ⟨kn159, hN60, hc61, hc62, hf63⟩ := hp57
            refine lv_aload_n hx_ hb_ dX10_setDrawer_61 rfl (lv_at hl 0 rfl) ?_
            refine sc_get (ci := 8) (C := RX10) (T := TX10) (n := 11) S hK hV inX10_ hc61 rfl 0 (by decide) (S.2.2.2.2 _ (List.mem_of_getElem? (i := 3) rfl)) rfl rfl dX10_setDrawer_62 ?_
            have hc64 : stC G M55 (c + 1) f := hc50.fr (fun x q8 q9 => hf63 x (by omega) (by omega) (by omega))
            refine sc_getN (ci := 4) (C := RX6) (T := TX6) (n := 8) S hK hV inX6_ (hc64).1 rfl 2 (by decide) (E.2.2.2.2.2.1.1.2.1 _ (List.mem_of_getElem? (i := 8) rfl)) rfl rfl dX10_setDrawer_65 ?_
            refine lv_iload_n hx_ hb_ dX10_setDrawer_68 rfl (lv_at hl 1 rfl) ?_
            refine si_const S dX10_setDrawer_69 ?_
            refine sk_VP E hV (As := [.int (sI d), .int (sI 0)]) (rest := []) (kTg l_ G b_ M55 N56 (c + 6) 2 4 8 (tvD f) d 0 (f (150 + d)) ((hc64).2.2.2.1) (by omega) (by omega) (tvD_0 f d)) (cwV 2 S.2.2.2.2 gX10_setDrawer_X8_get rfl rfl rfl (by decide +kernel) ⟨Nat.le_of_ble_eq_true rfl, Nat.le_of_ble_eq_true rfl⟩) (ci := 6) ((hc64).2.2.2.1).1 rfl rfl rfl hl.1 (Nat.le_of_ble_eq_true rfl) dX10_setDrawer_70 (c1 := 18) (s1 := 2918) ⟨⟨rfl, rfl⟩, by decide, by decide⟩ (fun H locs hV => ?_)
            have kn65 : 0 ≤ f (150 + d) ∧ f (150 + d) ≤ 99 := (sOk_D hok d (by omega) (by omega)).1
            refine lv_istore (lv' := [(4, .int (sI (f (150 + d)))), (0, .ref c), (1, .int (sI d)), (2, .int (sI z)), (3, .int (sI v))]) hx_ hb_ dX10_setDrawer_73 hl (by decide) rfl (fun ls hl => ?_)
            refine lv_aload_n hx_ hb_ dX10_setDrawer_75 rfl (lv_at hl 1 rfl) ?_
            refine sc_get (ci := 8) (C := RX10) (T := TX10) (n := 11) S hK hV inX10_ hc61 rfl 0 (by decide) (S.2.2.2.2 _ (List.mem_of_getElem? (i := 3) rfl)) rfl rfl dX10_setDrawer_76 ?_
            refine sc_getN (ci := 4) (C := RX6) (T := TX6) (n := 8) S hK hV inX6_ (hc64).1 rfl 2 (by decide) (E.2.2.2.2.2.1.1.2.1 _ (List.mem_of_getElem? (i := 8) rfl)) rfl rfl dX10_setDrawer_79 ?_
            refine lv_iload_n hx_ hb_ dX10_setDrawer_82 rfl (lv_at hl 2 rfl) ?_
            refine si_const S dX10_setDrawer_83 ?_
            refine lv_iload_n hx_ hb_ dX10_setDrawer_84 rfl (lv_at hl 3 rfl) ?_
            have hx66 : M55 (c + 1) = some (sObj 4 [.ref (c + 2), .ref (c + 4), .ref (c + 6), .ref (c + 8), .ref (c + 10), .ref (c + 12), .ref (c + 14), .int (sI (f 571))]) := (hc64).1
            have hx67 : stK G M55 (c + 2) 7 (f 568) 70 (tvS f) := (hc64).2.1
            have hx68 : stK G M55 (c + 4) 2 (f 569) 80 (tvC f) := (hc64).2.2.1
            have hx69 : stK G M55 (c + 6) 2 4 8 (tvD f) := (hc64).2.2.2.1
            have hx70 : stK G M55 (c + 8) 6 6 36 (tvP f) := (hc64).2.2.2.2.1
            have hx71 : stK G M55 (c + 10) 5 (f 570) 300 (tvT f) := (hc64).2.2.2.2.2.1
            have hx72 : stK G M55 (c + 12) 4 (f 572) 80 (tvW f) := (hc64).2.2.2.2.2.2.1
            have hx73 : stK G M55 (c + 14) 3 (f 573) 24 (tvO f) := (hc64).2.2.2.2.2.2.2
            refine sk_Vv E hV (As := [.int (sI d), .int (sI 0), .int (sI z)]) (rest := []) (kTw l_ G b_ M55 N56 (c + 6) 2 4 8 (tvD f) d 0 z hx69 (by omega) (by omega)) (cwV 3 S.2.2.2.2 gX10_setDrawer_X8_set rfl rfl rfl (by decide +kernel) ⟨Nat.le_of_ble_eq_true rfl, Nat.le_of_ble_eq_true rfl⟩) (ci := 6) (hx69).1 rfl rfl rfl hl.1 (Nat.le_of_ble_eq_true rfl) dX10_setDrawer_85 (c1 := 18) (s1 := 2918) ⟨⟨rfl, rfl⟩, by decide, by decide⟩ (fun M74 N75 H locs hp76 hV => ?_)
            obtain ⟨hN78, hc79, hf80⟩ := hp76
            rw [hN78] at hV
            refine lv_aload_n hx_ hb_ dX10_setDrawer_88 rfl (lv_at hl 1 rfl) ?_
            have hc81 : M74 c = some (xO c kn159 (chn ch)) := (hf80 c (by omega)).trans hc61
            refine sc_get (ci := 8) (C := RX10) (T := TX10) (n := 11) S hK hV inX10_ hc81 rfl 0 (by decide) (S.2.2.2.2 _ (List.mem_of_getElem? (i := 3) rfl)) rfl rfl dX10_setDrawer_89 ?_
            have hc82 : M74 (c + 1) = some (sObj 4 [.ref (c + 2), .ref (c + 4), .ref (c + 6), .ref (c + 8), .ref (c + 10), .ref (c + 12), .ref (c + 14), .int (sI (f 571))]) := (hf80 (c + 1) (by omega)).trans hx66
            refine sc_getN (ci := 4) (C := RX6) (T := TX6) (n := 8) S hK hV inX6_ hc82 rfl 2 (by decide) (E.2.2.2.2.2.1.1.2.1 _ (List.mem_of_getElem? (i := 8) rfl)) rfl rfl dX10_setDrawer_92 ?_
            refine lv_iload_n hx_ hb_ dX10_setDrawer_95 rfl (lv_at hl 2 rfl) ?_
            refine si_const S dX10_setDrawer_96 ?_
            refine lv_iload_n hx_ hb_ dX10_setDrawer_97 rfl (lv_at hl 4 rfl) ?_
            refine sk_Vv E hV (As := [.int (sI d), .int (sI 1), .int (sI v)]) (rest := []) (kTw l_ G b_ M74 N56 (c + 6) 2 4 8 (tvU (tvD f) d 0 z) d 1 v hc79 (by omega) (by omega)) (cwV 3 S.2.2.2.2 gX10_setDrawer_X8_set rfl rfl rfl (by decide +kernel) ⟨Nat.le_of_ble_eq_true rfl, Nat.le_of_ble_eq_true rfl⟩) (ci := 6) (hc79).1 rfl rfl rfl hl.1 (Nat.le_of_ble_eq_true rfl) dX10_setDrawer_98 (c1 := 18) (s1 := 2918) ⟨⟨rfl, rfl⟩, by decide, by decide⟩ (fun M83 N84 H locs hp85 hV => ?_)
            obtain ⟨hN87, hc88, hf89⟩ := hp85
            rw [hN87] at hV
            refine lv_iload hx_ hb_ dX10_setDrawer_101 (lv_at hl 0 rfl) ?_
            have hc90 : M83 (c + 1) = some (sObj 4 [.ref (c + 2), .ref (c + 4), .ref (c + 6), .ref (c + 8), .ref (c + 10), .ref (c + 12), .ref (c + 14), .int (sI (f 571))]) := (hf89 (c + 1) (by omega)).trans hc82
            have hc91 : stK G M83 (c + 2) 7 (f 568) 70 (tvS f) := hx67.fr (fun x q8 q9 => (hf89 x (by omega)).trans (hf80 x (by omega)))
            have hc92 : stK G M83 (c + 4) 2 (f 569) 80 (tvC f) := hx68.fr (fun x q8 q9 => (hf89 x (by omega)).trans (hf80 x (by omega)))
            have hc93 : stK G M83 (c + 8) 6 6 36 (tvP f) := hx70.fr (fun x q8 q9 => (hf89 x (by omega)).trans (hf80 x (by omega)))
            have hc94 : stK G M83 (c + 10) 5 (f 570) 300 (tvT f) := hx71.fr (fun x q8 q9 => (hf89 x (by omega)).trans (hf80 x (by omega)))
            have hc95 : stK G M83 (c + 12) 4 (f 572) 80 (tvW f) := hx72.fr (fun x q8 q9 => (hf89 x (by omega)).trans (hf80 x (by omega)))
            have hc96 : stK G M83 (c + 14) 3 (f 573) 24 (tvO f) := hx73.fr (fun x q8 q9 => (hf89 x (by omega)).trans (hf80 x (by omega)))
            have hc97 : M83 c = some (xO c kn159 (chn ch)) := (hf89 c (by omega)).trans hc81
            have hc98 : kpC G M83 (c + 31) kb kn159 (chn ch) (fsn ch fs f) := hc62.fr (fun x q8 => (hf89 x (by omega)).trans (hf80 x (by omega)))
            exact xr_i E hQ dX10_setDrawer_103 ⟨Nat.le_of_ble_eq_true rfl, Nat.le_of_ble_eq_true rfl⟩ hV (⟨_, by omega, fun x q0 q1 q2 q3 => (((((hf89 x (by omega)).trans (hf80 x (by omega))).trans (hf63 x (by omega) (by omega) (by omega))).trans (hf46 x )).trans (hf30 x )).trans (hf14 x ), ⟨(by omega), rfl, hc97, stC_u2 kn0 hc90 hc91 hc92 (hc88.c (fun i j q1 q2 q3 q4 => sdF_t (by omega) i j (by omega) (by omega))) hc93 hc94 hc95 hc96 (fun q w1 w2 w3 w4 => by unfold sdF iup; (repeat (first | rw [if_pos (by omega)] | rw [if_neg (by omega)]))), hc98⟩⟩)
          · have hc99 : kpC G M33 (c + 31) kb kn ch fs := hkp.fr (fun x q8 => ((hf46 x ).trans (hf30 x )).trans (hf14 x ))
            exact xt_S (own := RX10) (rest := []) E hF_ hxt_ hQ hlt (ik := 80) (is := 217) (ic := 84) (cls := "java/lang/IllegalStateException") (text := "more lies in the drawer") (by decide +kernel) xg_IS (List.mem_of_getElem? (i := 1) rfl) (List.mem_of_getElem? (i := 2) rfl) (fun _ h => List.mem_cons_of_mem _ (List.mem_append_left _ (List.mem_append_right _ h))) (List.mem_of_getElem? (i := 10) rfl) hl.1 dX10_setDrawer_47 dX10_setDrawer_50 dX10_setDrawer_51 dX10_setDrawer_53 dX10_setDrawer_56 ⟨Nat.le_of_ble_eq_true rfl, Nat.le_of_ble_eq_true rfl, Nat.le_of_ble_eq_true rfl, Nat.le_of_ble_eq_true rfl⟩ ⟨Nat.le_of_ble_eq_true rfl, Nat.le_of_ble_eq_true rfl⟩ hV (fun N9 h9 => ⟨_, by omega, fun x q0 q1 q2 q3 => ((hf46 x ).trans (hf30 x )).trans (hf14 x ), Or.inr (⟨(by first | omega | assumption), rfl, hc49, hc50, hc99⟩)⟩)

abbrev rmX10_part : Room := { frames := 7, cells := 25, slots := 3000, locals := 125 }
set_option maxHeartbeats 4000000 in
set_option maxRecDepth 100000 in
theorem kX10_part (l_ : Launch) (G : sG) (b_ : Nat) (M : sM) (N : Nat) (c : Nat) (kn ch : Int) (f : sF) (kb : Nat) (fs : Int → sF) (p q : Int) (B : Prop) (hc0 : M c = some (xO c kn ch)) (hst : stC G M (c + 1) f) (hkp : kpC G M (c + 31) kb kn ch fs) (hlt : l_.stackTraces = false) (hok : sOk f) (hkb : c + 60 ≤ kb) (hkN : kb ≤ N) (hr : sR p ∧ sR q) : xcI l_ yX10_part wsX10_part rmX10_part G b_ M N [.ref c, .int (sI p), .int (sI q), .int (sI (bI B))] (fun z_ M1 N1 => ∃ kn1 : Int, N ≤ N1 ∧ (∀ x : Nat, ¬ (x = c) → ¬ (x = c + 31) → ¬ (kb ≤ x) → ¬ (c + 1 ≤ x ∧ x < c + 1 + 15) → M1 x = M x) ∧ (((((0 ≤ p ∧ p ≤ 5) ∧ (0 ≤ q ∧ q ≤ 5)) ∧ ¬ (B ∧ lieP f p q)) ∧ z_ = bI (tb (f (158 + p)) q) ∧ M1 c = some (xO c kn1 (chn ch)) ∧ stC G M1 (c + 1) (prF f B p q) ∧ kpC G M1 (c + 31) kb kn1 (chn ch) (fsn ch fs f)))) (fun E_ M1 N1 => ∃ kn1 : Int, N ≤ N1 ∧ (∀ x : Nat, ¬ (x = c) → ¬ (x = c + 31) → ¬ (kb ≤ x) → ¬ (c + 1 ≤ x ∧ x < c + 1 + 15) → M1 x = M x) ∧ (((¬ ((0 ≤ p ∧ p ≤ 5) ∧ (0 ≤ q ∧ q ≤ 5))) ∧ E_ = "java/lang/IllegalArgumentException" ∧ M1 c = some (xO c kn1 ch) ∧ stC G M1 (c + 1) f ∧ kpC G M1 (c + 31) kb kn1 ch fs) ∨ ((((0 ≤ p ∧ p ≤ 5) ∧ (0 ≤ q ∧ q ≤ 5)) ∧ B ∧ lieP f p q) ∧ E_ = "java/lang/IllegalStateException" ∧ M1 c = some (xO c kn1 ch) ∧ stC G M1 (c + 1) f ∧ kpC G M1 (c + 31) kb kn1 ch fs))) := by
  refine xcE.ofI (cc := cX10_part) (nL := 5) (ret := (some .boolean)) (by decide) rfl (Nat.le_of_ble_eq_true rfl) ?_
  intro p_ e_ s_ m_ args_ below_ meth_ c_ ls Q hQ E hF_ hxt_ hl
  have E : sE p_ l_ e_ rmX10_part s_ m_ args_ below_ meth_ c_ cX10_part 5 wsX10_part RX10 "part" (some .boolean) G b_ M N := E
  have S := E.1
  have hx_ := S.1
  have hb_ := S.2.1
  have hK := E.2.2.2.2.1
  have hV := E.2.2.2.2.2.2
  have hl : lv_has ls 5 [(0, .ref c), (1, .int (sI p)), (2, .int (sI q)), (3, .int (sI (bI B)))] := hl
  have inX10_ : ∀ w ∈ wsX100, w ∈ wsX10_part := fun _ h => List.mem_cons_of_mem _ (List.mem_append_left _ (List.mem_append_left _ (List.mem_append_left _ (List.mem_append_left _ (List.mem_append_right _ h)))))
  have inX6_ : ∀ w ∈ wsX60, w ∈ wsX10_part := fun _ h => List.mem_cons_of_mem _ (List.mem_append_left _ (List.mem_append_left _ (List.mem_append_left _ (List.mem_append_right _ h))))
  have inX8_ : ∀ w ∈ wsX80, w ∈ wsX10_part := fun _ h => List.mem_cons_of_mem _ (List.mem_append_left _ (List.mem_append_left _ (List.mem_append_right _ h)))
  have hbN : b_ ≤ N := by have h1 := hV.1.1; have h2 := hV.2.2; omega
  have kn0 := sOk_N hok
  refine lv_iload_n hx_ hb_ dX10_part_0 rfl (lv_at hl 1 rfl) ?_
  refine si_const S dX10_part_1 ?_
  refine si_const S dX10_part_2 ?_
  refine xk_Sv E hF_ hxt_ hQ hV (As := [.int (sI p), .int (sI 0), .int (sI 5)]) (rest := []) (kX10_needRange l_ G b_ M N p 0 5 (by omega) (by omega)) (va_cwS 3 S.2.2.2.2 gX10_part_X10_needRange rfl rfl rfl (by decide +kernel) ⟨Nat.le_of_ble_eq_true rfl, Nat.le_of_ble_eq_true rfl⟩) rfl rfl hl.1 (Nat.le_of_ble_eq_true rfl) dX10_part_3 (c1 := 1) (s1 := 6) ⟨⟨rfl, rfl⟩, by decide, by decide⟩ ⟨Nat.le_of_ble_eq_true rfl, Nat.le_of_ble_eq_true rfl⟩ ?_ (fun M1 N2 H locs hp3 hV => ?_)
  · rintro E9 M9 N9 ⟨hN5, hf6, hq7⟩
    rcases hq7 with ⟨c8, ee9⟩
    · have hc10 : M9 c = some (xO c kn ch) := (hf6 c ).trans hc0
      have hc11 : stC G M9 (c + 1) f := hst.fr (fun x q8 q9 => hf6 x )
      have hc12 : kpC G M9 (c + 31) kb kn ch fs := hkp.fr (fun x q8 => hf6 x )
      exact ⟨_, by omega, fun x q0 q1 q2 q3 => hf6 x , Or.inl ⟨(by first | exact c8 | omega), ee9, hc10, hc11, hc12⟩⟩
  obtain ⟨hN13, hf14, hq15⟩ := hp3
  rw [hN13] at hV
  rcases hq15 with c16
  · refine lv_iload_n hx_ hb_ dX10_part_6 rfl (lv_at hl 2 rfl) ?_
    refine si_const S dX10_part_7 ?_
    refine si_const S dX10_part_8 ?_
    refine xk_Sv E hF_ hxt_ hQ hV (As := [.int (sI q), .int (sI 0), .int (sI 5)]) (rest := []) (kX10_needRange l_ G b_ M1 N q 0 5 (by omega) (by omega)) (va_cwS 3 S.2.2.2.2 gX10_part_X10_needRange rfl rfl rfl (by decide +kernel) ⟨Nat.le_of_ble_eq_true rfl, Nat.le_of_ble_eq_true rfl⟩) rfl rfl hl.1 (Nat.le_of_ble_eq_true rfl) dX10_part_9 (c1 := 2) (s1 := 12) ⟨⟨rfl, rfl⟩, by decide, by decide⟩ ⟨Nat.le_of_ble_eq_true rfl, Nat.le_of_ble_eq_true rfl⟩ ?_ (fun M17 N18 H locs hp19 hV => ?_)
    · rintro E9 M9 N9 ⟨hN21, hf22, hq23⟩
      rcases hq23 with ⟨c24, ee25⟩
      · have hc26 : M9 c = some (xO c kn ch) := ((hf22 c ).trans (hf14 c )).trans hc0
        have hc27 : stC G M9 (c + 1) f := hst.fr (fun x q8 q9 => (hf22 x ).trans (hf14 x ))
        have hc28 : kpC G M9 (c + 31) kb kn ch fs := hkp.fr (fun x q8 => (hf22 x ).trans (hf14 x ))
        exact ⟨_, by omega, fun x q0 q1 q2 q3 => (hf22 x ).trans (hf14 x ), Or.inl ⟨(by first | exact c24 | omega), ee25, hc26, hc27, hc28⟩⟩
    obtain ⟨hN29, hf30, hq31⟩ := hp19
    rw [hN29] at hV
    rcases hq31 with c32
    · refine lv_iload_n hx_ hb_ dX10_part_12 rfl (lv_at hl 3 rfl) ?_
      refine sq_eq (tgt := 38) S dX10_part_13 (by decide) (fun hB => ?_) (fun hB => ?_)
      · refine lv_aload_n hx_ hb_ dX10_part_38 rfl (lv_at hl 0 rfl) ?_
        have hc33 : M17 c = some (xO c kn ch) := ((hf30 c ).trans (hf14 c )).trans hc0
        have hc34 : stC G M17 (c + 1) f := hst.fr (fun x q8 q9 => (hf30 x ).trans (hf14 x ))
        have hc35 : kpC G M17 (c + 31) kb kn ch fs := hkp.fr (fun x q8 => (hf30 x ).trans (hf14 x ))
        refine sk_Vv E hV (As := []) (rest := []) (kX10_keepState l_ G b_ M17 N c kn ch f kb fs hc33 hc34 hc35 (by omega) (by omega) (by omega)) (cwV 0 S.2.2.2.2 gX10_part_X10_keepState rfl rfl rfl (by decide +kernel) ⟨Nat.le_of_ble_eq_true rfl, Nat.le_of_ble_eq_true rfl⟩) (ci := 8) hc33 rfl rfl rfl hl.1 (Nat.le_of_ble_eq_true rfl) dX10_part_39 (c1 := 17) (s1 := 2912) ⟨⟨rfl, rfl⟩, by decide, by decide⟩ (fun M36 N37 H locs hp38 hV => ?_)
        obtain ⟨kn140, hN41, hc42, hc43, hf44⟩ := hp38
        refine lv_aload_n hx_ hb_ dX10_part_42 rfl (lv_at hl 0 rfl) ?_
        refine sc_get (ci := 8) (C := RX10) (T := TX10) (n := 11) S hK hV inX10_ hc42 rfl 0 (by decide) (S.2.2.2.2 _ (List.mem_of_getElem? (i := 3) rfl)) rfl rfl dX10_part_43 ?_
        refine lv_iload_n hx_ hb_ dX10_part_46 rfl (lv_at hl 1 rfl) ?_
        refine lv_iload_n hx_ hb_ dX10_part_47 rfl (lv_at hl 2 rfl) ?_
        have hc45 : stC G M36 (c + 1) f := hc34.fr (fun x q8 q9 => hf44 x (by omega) (by omega) (by omega))
        refine sk_VP E hV (As := [.int (sI p), .int (sI q)]) (rest := []) (kX6_areParted l_ G b_ M36 N37 (c + 1) f p q hc45 (by omega) (by omega)) (cwV 2 S.2.2.2.2 gX10_part_X6_areParted rfl rfl rfl (by decide +kernel) ⟨Nat.le_of_ble_eq_true rfl, Nat.le_of_ble_eq_true rfl⟩) (ci := 4) (hc45).1 rfl rfl rfl hl.1 (Nat.le_of_ble_eq_true rfl) dX10_part_48 (c1 := 17) (s1 := 2912) ⟨⟨rfl, rfl⟩, by decide, by decide⟩ (fun H locs hV => ?_)
        refine lv_istore (lv' := [(4, .int (sI (bI (tb (f (158 + p)) q)))), (0, .ref c), (1, .int (sI p)), (2, .int (sI q)), (3, .int (sI (bI B)))]) hx_ hb_ dX10_part_51 hl (by decide) rfl (fun ls hl => ?_)
        refine lv_aload_n hx_ hb_ dX10_part_53 rfl (lv_at hl 1 rfl) ?_
        refine sc_get (ci := 8) (C := RX10) (T := TX10) (n := 11) S hK hV inX10_ hc42 rfl 0 (by decide) (S.2.2.2.2 _ (List.mem_of_getElem? (i := 3) rfl)) rfl rfl dX10_part_54 ?_
        refine lv_iload_n hx_ hb_ dX10_part_57 rfl (lv_at hl 2 rfl) ?_
        refine lv_iload_n hx_ hb_ dX10_part_58 rfl (lv_at hl 3 rfl) ?_
        refine lv_iload_n hx_ hb_ dX10_part_59 rfl (lv_at hl 4 rfl) ?_
        refine sk_Vv E hV (As := [.int (sI p), .int (sI q), .int (sI (bI B))]) (rest := []) (kX6_setParted l_ G b_ M36 N37 (c + 1) f p q B hc45 (by omega) (by omega)) (cwV 3 S.2.2.2.2 gX10_part_X6_setParted rfl rfl rfl (by decide +kernel) ⟨Nat.le_of_ble_eq_true rfl, Nat.le_of_ble_eq_true rfl⟩) (ci := 4) (hc45).1 rfl rfl rfl hl.1 (Nat.le_of_ble_eq_true rfl) dX10_part_60 (c1 := 17) (s1 := 2912) ⟨⟨rfl, rfl⟩, by decide, by decide⟩ (fun M46 N47 H locs hp48 hV => ?_)
        obtain ⟨hN50, hc51, hf52⟩ := hp48
        rw [hN50] at hV
        refine lv_iload hx_ hb_ dX10_part_63 (lv_at hl 0 rfl) ?_
        have hc53 : M46 c = some (xO c kn140 (chn ch)) := (hf52 c (by omega)).trans hc42
        have hc54 : kpC G M46 (c + 31) kb kn140 (chn ch) (fsn ch fs f) := hc43.fr (fun x q8 => hf52 x (by omega))
        exact xr_z E hQ bI_or dX10_part_65 ⟨Nat.le_of_ble_eq_true rfl, Nat.le_of_ble_eq_true rfl⟩ hV (⟨_, by omega, fun x q0 q1 q2 q3 => (((hf52 x (by omega)).trans (hf44 x (by omega) (by omega) (by omega))).trans (hf30 x )).trans (hf14 x ), ⟨(⟨by omega, fun h9 => hB h9.1⟩), rfl, hc53, hc51, hc54⟩⟩)
      · refine lv_aload_n hx_ hb_ dX10_part_16 rfl (lv_at hl 0 rfl) ?_
        have hc55 : M17 c = some (xO c kn ch) := ((hf30 c ).trans (hf14 c )).trans hc0
        refine sc_get (ci := 8) (C := RX10) (T := TX10) (n := 11) S hK hV inX10_ hc55 rfl 0 (by decide) (S.2.2.2.2 _ (List.mem_of_getElem? (i := 3) rfl)) rfl rfl dX10_part_17 ?_
        refine lv_iload_n hx_ hb_ dX10_part_20 rfl (lv_at hl 1 rfl) ?_
        refine lv_iload_n hx_ hb_ dX10_part_21 rfl (lv_at hl 2 rfl) ?_
        have hc56 : stC G M17 (c + 1) f := hst.fr (fun x q8 q9 => (hf30 x ).trans (hf14 x ))
        refine sk_VP E hV (As := [.int (sI p), .int (sI q)]) (rest := []) (kX6_lieTogether l_ G b_ M17 N (c + 1) f p q hc56 (by omega) (by omega)) (cwV 2 S.2.2.2.2 gX10_part_X6_lieTogether rfl rfl rfl (by decide +kernel) ⟨Nat.le_of_ble_eq_true rfl, Nat.le_of_ble_eq_true rfl⟩) (ci := 4) (hc56).1 rfl rfl rfl hl.1 (Nat.le_of_ble_eq_true rfl) dX10_part_22 (c1 := 2) (s1 := 12) ⟨⟨rfl, rfl⟩, by decide, by decide⟩ (fun H locs hV => ?_)
        refine sq_eq (tgt := 38) S dX10_part_25 (by decide) (fun hL => ?_) (fun hL => ?_)
        · refine lv_aload_n hx_ hb_ dX10_part_38 rfl (lv_at hl 0 rfl) ?_
          have hc57 : kpC G M17 (c + 31) kb kn ch fs := hkp.fr (fun x q8 => (hf30 x ).trans (hf14 x ))
          refine sk_Vv E hV (As := []) (rest := []) (kX10_keepState l_ G b_ M17 N c kn ch f kb fs hc55 hc56 hc57 (by omega) (by omega) (by omega)) (cwV 0 S.2.2.2.2 gX10_part_X10_keepState rfl rfl rfl (by decide +kernel) ⟨Nat.le_of_ble_eq_true rfl, Nat.le_of_ble_eq_true rfl⟩) (ci := 8) hc55 rfl rfl rfl hl.1 (Nat.le_of_ble_eq_true rfl) dX10_part_39 (c1 := 17) (s1 := 2912) ⟨⟨rfl, rfl⟩, by decide, by decide⟩ (fun M58 N59 H locs hp60 hV => ?_)
          obtain ⟨kn162, hN63, hc64, hc65, hf66⟩ := hp60
          refine lv_aload_n hx_ hb_ dX10_part_42 rfl (lv_at hl 0 rfl) ?_
          refine sc_get (ci := 8) (C := RX10) (T := TX10) (n := 11) S hK hV inX10_ hc64 rfl 0 (by decide) (S.2.2.2.2 _ (List.mem_of_getElem? (i := 3) rfl)) rfl rfl dX10_part_43 ?_
          refine lv_iload_n hx_ hb_ dX10_part_46 rfl (lv_at hl 1 rfl) ?_
          refine lv_iload_n hx_ hb_ dX10_part_47 rfl (lv_at hl 2 rfl) ?_
          have hc67 : stC G M58 (c + 1) f := hc56.fr (fun x q8 q9 => hf66 x (by omega) (by omega) (by omega))
          refine sk_VP E hV (As := [.int (sI p), .int (sI q)]) (rest := []) (kX6_areParted l_ G b_ M58 N59 (c + 1) f p q hc67 (by omega) (by omega)) (cwV 2 S.2.2.2.2 gX10_part_X6_areParted rfl rfl rfl (by decide +kernel) ⟨Nat.le_of_ble_eq_true rfl, Nat.le_of_ble_eq_true rfl⟩) (ci := 4) (hc67).1 rfl rfl rfl hl.1 (Nat.le_of_ble_eq_true rfl) dX10_part_48 (c1 := 17) (s1 := 2912) ⟨⟨rfl, rfl⟩, by decide, by decide⟩ (fun H locs hV => ?_)
          refine lv_istore (lv' := [(4, .int (sI (bI (tb (f (158 + p)) q)))), (0, .ref c), (1, .int (sI p)), (2, .int (sI q)), (3, .int (sI (bI B)))]) hx_ hb_ dX10_part_51 hl (by decide) rfl (fun ls hl => ?_)
          refine lv_aload_n hx_ hb_ dX10_part_53 rfl (lv_at hl 1 rfl) ?_
          refine sc_get (ci := 8) (C := RX10) (T := TX10) (n := 11) S hK hV inX10_ hc64 rfl 0 (by decide) (S.2.2.2.2 _ (List.mem_of_getElem? (i := 3) rfl)) rfl rfl dX10_part_54 ?_
          refine lv_iload_n hx_ hb_ dX10_part_57 rfl (lv_at hl 2 rfl) ?_
          refine lv_iload_n hx_ hb_ dX10_part_58 rfl (lv_at hl 3 rfl) ?_
          refine lv_iload_n hx_ hb_ dX10_part_59 rfl (lv_at hl 4 rfl) ?_
          refine sk_Vv E hV (As := [.int (sI p), .int (sI q), .int (sI (bI B))]) (rest := []) (kX6_setParted l_ G b_ M58 N59 (c + 1) f p q B hc67 (by omega) (by omega)) (cwV 3 S.2.2.2.2 gX10_part_X6_setParted rfl rfl rfl (by decide +kernel) ⟨Nat.le_of_ble_eq_true rfl, Nat.le_of_ble_eq_true rfl⟩) (ci := 4) (hc67).1 rfl rfl rfl hl.1 (Nat.le_of_ble_eq_true rfl) dX10_part_60 (c1 := 17) (s1 := 2912) ⟨⟨rfl, rfl⟩, by decide, by decide⟩ (fun M68 N69 H locs hp70 hV => ?_)
          obtain ⟨hN72, hc73, hf74⟩ := hp70
          rw [hN72] at hV
          refine lv_iload hx_ hb_ dX10_part_63 (lv_at hl 0 rfl) ?_
          have hc75 : M68 c = some (xO c kn162 (chn ch)) := (hf74 c (by omega)).trans hc64
          have hc76 : kpC G M68 (c + 31) kb kn162 (chn ch) (fsn ch fs f) := hc65.fr (fun x q8 => hf74 x (by omega))
          exact xr_z E hQ bI_or dX10_part_65 ⟨Nat.le_of_ble_eq_true rfl, Nat.le_of_ble_eq_true rfl⟩ hV (⟨_, by omega, fun x q0 q1 q2 q3 => (((hf74 x (by omega)).trans (hf66 x (by omega) (by omega) (by omega))).trans (hf30 x )).trans (hf14 x ), ⟨(⟨by omega, fun h9 => hL h9.2⟩), rfl, hc75, hc73, hc76⟩⟩)
        · have hc77 : kpC G M17 (c + 31) kb kn ch fs := hkp.fr (fun x q8 => (hf30 x ).trans (hf14 x ))
          exact xt_S (own := RX10) (rest := []) E hF_ hxt_ hQ hlt (ik := 80) (is := 225) (ic := 84) (cls := "java/lang/IllegalStateException") (text := "stones of these kinds lie together") (by decide +kernel) xg_IS (List.mem_of_getElem? (i := 1) rfl) (List.mem_of_getElem? (i := 2) rfl) (fun _ h => List.mem_cons_of_mem _ (List.mem_append_left _ (List.mem_append_right _ h))) (List.mem_of_getElem? (i := 11) rfl) hl.1 dX10_part_28 dX10_part_31 dX10_part_32 dX10_part_34 dX10_part_37 ⟨Nat.le_of_ble_eq_true rfl, Nat.le_of_ble_eq_true rfl, Nat.le_of_ble_eq_true rfl, Nat.le_of_ble_eq_true rfl⟩ ⟨Nat.le_of_ble_eq_true rfl, Nat.le_of_ble_eq_true rfl⟩ hV (fun N9 h9 => ⟨_, by omega, fun x q0 q1 q2 q3 => (hf30 x ).trans (hf14 x ), Or.inr (⟨(⟨by omega, hB, hL⟩), rfl, hc55, hc56, hc77⟩)⟩)

abbrev rmX10_lay : Room := { frames := 7, cells := 25, slots := 3000, locals := 125 }
set_option maxHeartbeats 4000000 in
set_option maxRecDepth 100000 in
theorem kX10_lay (l_ : Launch) (G : sG) (b_ : Nat) (M : sM) (N : Nat) (c : Nat) (kn ch : Int) (f : sF) (kb : Nat) (fs : Int → sF) (s d : Int) (hc0 : M c = some (xO c kn ch)) (hst : stC G M (c + 1) f) (hkp : kpC G M (c + 31) kb kn ch fs) (hlt : l_.stackTraces = false) (hok : sOk f) (hkb : c + 60 ≤ kb) (hkN : kb ≤ N) (hI : dI f) (hr : sR s ∧ sR d) : xcI l_ yX10_lay wsX10_lay rmX10_lay G b_ M N [.ref c, .int (sI s), .int (sI d)] (fun z_ M1 N1 => ∃ kn1 : Int, N ≤ N1 ∧ (∀ x : Nat, ¬ (x = c) → ¬ (x = c + 31) → ¬ (kb ≤ x) → ¬ (c + 1 ≤ x ∧ x < c + 1 + 15) → M1 x = M x) ∧ (((((0 ≤ s ∧ s < f 568)) ∧ (d = -1 ∨ 0 ≤ d ∧ d ≤ 3)) ∧ z_ = whyL f s d ∧ M1 c = some (xO c kn1 (chn ch)) ∧ stC G M1 (c + 1) (layF f s d) ∧ kpC G M1 (c + 31) kb kn1 (chn ch) (fsn ch fs f)))) (fun E_ M1 N1 => ∃ kn1 : Int, N ≤ N1 ∧ (∀ x : Nat, ¬ (x = c) → ¬ (x = c + 31) → ¬ (kb ≤ x) → ¬ (c + 1 ≤ x ∧ x < c + 1 + 15) → M1 x = M x) ∧ (((¬ (0 ≤ s ∧ s < f 568)) ∧ E_ = "java/lang/IndexOutOfBoundsException" ∧ M1 c = some (xO c kn1 ch) ∧ stC G M1 (c + 1) f ∧ kpC G M1 (c + 31) kb kn1 ch fs) ∨ ((((0 ≤ s ∧ s < f 568)) ∧ ¬ (d = -1 ∨ 0 ≤ d ∧ d ≤ 3)) ∧ E_ = "java/lang/IllegalArgumentException" ∧ M1 c = some (xO c kn1 ch) ∧ stC G M1 (c + 1) f ∧ kpC G M1 (c + 31) kb kn1 ch fs))) := by
  refine xcE.ofI (cc := cX10_lay) (nL := 5) (ret := (some .int)) (by decide) rfl (Nat.le_of_ble_eq_true rfl) ?_
  intro p_ e_ s_ m_ args_ below_ meth_ c_ ls Q hQ E hF_ hxt_ hl
  have E : sE p_ l_ e_ rmX10_lay s_ m_ args_ below_ meth_ c_ cX10_lay 5 wsX10_lay RX10 "lay" (some .int) G b_ M N := E
  have S := E.1
  have hx_ := S.1
  have hb_ := S.2.1
  have hK := E.2.2.2.2.1
  have hV := E.2.2.2.2.2.2
  have hl : lv_has ls 5 [(0, .ref c), (1, .int (sI s)), (2, .int (sI d))] := hl
  have inX10_ : ∀ w ∈ wsX100, w ∈ wsX10_lay := fun _ h => List.mem_cons_of_mem _ (List.mem_append_left _ (List.mem_append_left _ (List.mem_append_left _ (List.mem_append_left _ (List.mem_append_right _ h)))))
  have inX6_ : ∀ w ∈ wsX60, w ∈ wsX10_lay := fun _ h => List.mem_cons_of_mem _ (List.mem_append_left _ (List.mem_append_left _ (List.mem_append_left _ (List.mem_append_right _ h))))
  have inX8_ : ∀ w ∈ wsX80, w ∈ wsX10_lay := fun _ h => List.mem_cons_of_mem _ (List.mem_append_left _ (List.mem_append_left _ (List.mem_append_right _ h)))
  have hbN : b_ ≤ N := by have h1 := hV.1.1; have h2 := hV.2.2; omega
  have kn0 := sOk_N hok
  refine lv_aload_n hx_ hb_ dX10_lay_0 rfl (lv_at hl 0 rfl) ?_
  refine lv_iload_n hx_ hb_ dX10_lay_1 rfl (lv_at hl 1 rfl) ?_
  refine xk_Vv E hF_ hxt_ hQ hV (As := [.int (sI s)]) (rest := []) (kX10_needStone l_ G b_ M N c kn ch f s hc0 hst (by omega) (by omega) (by omega)) (cwV 1 S.2.2.2.2 gX10_lay_X10_needStone rfl rfl rfl (by decide +kernel) ⟨Nat.le_of_ble_eq_true rfl, Nat.le_of_ble_eq_true rfl⟩) (ci := 8) hc0 rfl rfl rfl hl.1 (Nat.le_of_ble_eq_true rfl) dX10_lay_2 (c1 := 1) (s1 := 6) ⟨⟨rfl, rfl⟩, by decide, by decide⟩ ⟨Nat.le_of_ble_eq_true rfl, Nat.le_of_ble_eq_true rfl⟩ ?_ (fun M1 N2 H locs hp3 hV => ?_)
  · rintro E9 M9 N9 ⟨hN5, hf6, hq7⟩
    rcases hq7 with ⟨c8, ee9⟩
    · have hc10 : M9 c = some (xO c kn ch) := (hf6 c ).trans hc0
      have hc11 : stC G M9 (c + 1) f := hst.fr (fun x q8 q9 => hf6 x )
      have hc12 : kpC G M9 (c + 31) kb kn ch fs := hkp.fr (fun x q8 => hf6 x )
      exact ⟨_, by omega, fun x q0 q1 q2 q3 => hf6 x , Or.inl ⟨(by first | exact c8 | omega), ee9, hc10, hc11, hc12⟩⟩
  obtain ⟨hN13, hf14, hq15⟩ := hp3
  rw [hN13] at hV
  rcases hq15 with c16
  · refine lv_iload_n hx_ hb_ dX10_lay_5 rfl (lv_at hl 2 rfl) ?_
    refine si_const S dX10_lay_6 ?_
    refine si_const S dX10_lay_7 ?_
    refine xk_Sv E hF_ hxt_ hQ hV (As := [.int (sI d), .int (sI (-1)), .int (sI 3)]) (rest := []) (kX10_needRange l_ G b_ M1 N d (-1) 3 (by omega) (by omega)) (va_cwS 3 S.2.2.2.2 gX10_lay_X10_needRange rfl rfl rfl (by decide +kernel) ⟨Nat.le_of_ble_eq_true rfl, Nat.le_of_ble_eq_true rfl⟩) rfl rfl hl.1 (Nat.le_of_ble_eq_true rfl) dX10_lay_8 (c1 := 2) (s1 := 12) ⟨⟨rfl, rfl⟩, by decide, by decide⟩ ⟨Nat.le_of_ble_eq_true rfl, Nat.le_of_ble_eq_true rfl⟩ ?_ (fun M17 N18 H locs hp19 hV => ?_)
    · rintro E9 M9 N9 ⟨hN21, hf22, hq23⟩
      rcases hq23 with ⟨c24, ee25⟩
      · have hc26 : M9 c = some (xO c kn ch) := ((hf22 c ).trans (hf14 c )).trans hc0
        have hc27 : stC G M9 (c + 1) f := hst.fr (fun x q8 q9 => (hf22 x ).trans (hf14 x ))
        have hc28 : kpC G M9 (c + 31) kb kn ch fs := hkp.fr (fun x q8 => (hf22 x ).trans (hf14 x ))
        exact ⟨_, by omega, fun x q0 q1 q2 q3 => (hf22 x ).trans (hf14 x ), Or.inr (⟨(by first | exact c24 | omega), ee25, hc26, hc27, hc28⟩)⟩
    obtain ⟨hN29, hf30, hq31⟩ := hp19
    rw [hN29] at hV
    rcases hq31 with c32
    · refine lv_aload_n hx_ hb_ dX10_lay_11 rfl (lv_at hl 0 rfl) ?_
      have hc33 : M17 c = some (xO c kn ch) := ((hf30 c ).trans (hf14 c )).trans hc0
      have hc34 : stC G M17 (c + 1) f := hst.fr (fun x q8 q9 => (hf30 x ).trans (hf14 x ))
      have hc35 : kpC G M17 (c + 31) kb kn ch fs := hkp.fr (fun x q8 => (hf30 x ).trans (hf14 x ))
      refine sk_Vv E hV (As := []) (rest := []) (kX10_keepState l_ G b_ M17 N c kn ch f kb fs hc33 hc34 hc35 (by omega) (by omega) (by omega)) (cwV 0 S.2.2.2.2 gX10_lay_X10_keepState rfl rfl rfl (by decide +kernel) ⟨Nat.le_of_ble_eq_true rfl, Nat.le_of_ble_eq_true rfl⟩) (ci := 8) hc33 rfl rfl rfl hl.1 (Nat.le_of_ble_eq_true rfl) dX10_lay_12 (c1 := 17) (s1 := 2912) ⟨⟨rfl, rfl⟩, by decide, by decide⟩ (fun M36 N37 H locs hp38 hV => ?_)
      obtain ⟨kn140, hN41, hc42, hc43, hf44⟩ := hp38
      refine lv_aload_n hx_ hb_ dX10_lay_15 rfl (lv_at hl 0 rfl) ?_
      refine sc_get (ci := 8) (C := RX10) (T := TX10) (n := 11) S hK hV inX10_ hc42 rfl 0 (by decide) (S.2.2.2.2 _ (List.mem_of_getElem? (i := 1) rfl)) rfl rfl dX10_lay_16 ?_
      have hc45 : stC G M36 (c + 1) f := hc34.fr (fun x q8 q9 => hf44 x (by omega) (by omega) (by omega))
      refine sc_getN (ci := 4) (C := RX6) (T := TX6) (n := 8) S hK hV inX6_ (hc45).1 rfl 0 (by decide) (E.2.2.2.2.2.1.1.2.1 _ (List.mem_of_getElem? (i := 3) rfl)) rfl rfl dX10_lay_19 ?_
      refine lv_iload_n hx_ hb_ dX10_lay_22 rfl (lv_at hl 1 rfl) ?_
      refine si_const S dX10_lay_23 ?_
      refine sk_VP E hV (As := [.int (sI s), .int (sI 5)]) (rest := []) (kTg l_ G b_ M36 N37 (c + 2) 7 (f 568) 70 (tvS f) s 5 (f (50 + s)) ((hc45).2.1) (by omega) (by omega) (tvS_5 f s)) (cwV 2 S.2.2.2.2 gX10_lay_X8_get rfl rfl rfl (by decide +kernel) ⟨Nat.le_of_ble_eq_true rfl, Nat.le_of_ble_eq_true rfl⟩) (ci := 6) ((hc45).2.1).1 rfl rfl rfl hl.1 (Nat.le_of_ble_eq_true rfl) dX10_lay_24 (c1 := 17) (s1 := 2912) ⟨⟨rfl, rfl⟩, by decide, by decide⟩ (fun H locs hV => ?_)
      have kn46 : -1 ≤ f (50 + s) ∧ f (50 + s) ≤ 3 := (sOk_S hok s (by omega) (by omega)).2.2.2.2.2.1
      refine lv_istore_n (lv' := [(3, .int (sI (f (50 + s)))), (0, .ref c), (1, .int (sI s)), (2, .int (sI d))]) hx_ hb_ dX10_lay_27 rfl hl (by decide) rfl (fun ls hl => ?_)
      refine lv_aload_n hx_ hb_ dX10_lay_28 rfl (lv_at hl 1 rfl) ?_
      refine sc_get (ci := 8) (C := RX10) (T := TX10) (n := 11) S hK hV inX10_ hc42 rfl 0 (by decide) (S.2.2.2.2 _ (List.mem_of_getElem? (i := 1) rfl)) rfl rfl dX10_lay_29 ?_
      refine sc_getN (ci := 4) (C := RX6) (T := TX6) (n := 8) S hK hV inX6_ (hc45).1 rfl 0 (by decide) (E.2.2.2.2.2.1.1.2.1 _ (List.mem_of_getElem? (i := 3) rfl)) rfl rfl dX10_lay_32 ?_
      refine lv_iload_n hx_ hb_ dX10_lay_35 rfl (lv_at hl 2 rfl) ?_
      refine si_const S dX10_lay_36 ?_
      refine lv_iload_n hx_ hb_ dX10_lay_37 rfl (lv_at hl 3 rfl) ?_
      have hx47 : M36 (c + 1) = some (sObj 4 [.ref (c + 2), .ref (c + 4), .ref (c + 6), .ref (c + 8), .ref (c + 10), .ref (c + 12), .ref (c + 14), .int (sI (f 571))]) := (hc45).1
      have hx48 : stK G M36 (c + 2) 7 (f 568) 70 (tvS f) := (hc45).2.1
      have hx49 : stK G M36 (c + 4) 2 (f 569) 80 (tvC f) := (hc45).2.2.1
      have hx50 : stK G M36 (c + 6) 2 4 8 (tvD f) := (hc45).2.2.2.1
      have hx51 : stK G M36 (c + 8) 6 6 36 (tvP f) := (hc45).2.2.2.2.1
      have hx52 : stK G M36 (c + 10) 5 (f 570) 300 (tvT f) := (hc45).2.2.2.2.2.1
      have hx53 : stK G M36 (c + 12) 4 (f 572) 80 (tvW f) := (hc45).2.2.2.2.2.2.1
      have hx54 : stK G M36 (c + 14) 3 (f 573) 24 (tvO f) := (hc45).2.2.2.2.2.2.2
      refine sk_Vv E hV (As := [.int (sI s), .int (sI 5), .int (sI d)]) (rest := []) (kTw l_ G b_ M36 N37 (c + 2) 7 (f 568) 70 (tvS f) s 5 d hx48 (by omega) (by omega)) (cwV 3 S.2.2.2.2 gX10_lay_X8_set rfl rfl rfl (by decide +kernel) ⟨Nat.le_of_ble_eq_true rfl, Nat.le_of_ble_eq_true rfl⟩) (ci := 6) (hx48).1 rfl rfl rfl hl.1 (Nat.le_of_ble_eq_true rfl) dX10_lay_38 (c1 := 17) (s1 := 2912) ⟨⟨rfl, rfl⟩, by decide, by decide⟩ (fun M55 N56 H locs hp57 hV => ?_)
      obtain ⟨hN59, hc60, hf61⟩ := hp57
      rw [hN59] at hV
      refine lv_iload_n hx_ hb_ dX10_lay_41 rfl (lv_at hl 3 rfl) ?_
      refine si_const S dX10_lay_42 ?_
      refine sb_ne (tgt := 50) S dX10_lay_43 (by decide) (by omega) (fun c62 => ?_) (fun c62 => ?_)
      · refine lv_aload_n hx_ hb_ dX10_lay_50 rfl (lv_at hl 1 rfl) ?_
        have hc63 : M55 c = some (xO c kn140 (chn ch)) := (hf61 c (by omega)).trans hc42
        refine sc_get (ci := 8) (C := RX10) (T := TX10) (n := 11) S hK hV inX10_ hc63 rfl 0 (by decide) (S.2.2.2.2 _ (List.mem_of_getElem? (i := 1) rfl)) rfl rfl dX10_lay_51 ?_
        refine lv_iload_n hx_ hb_ dX10_lay_54 rfl (lv_at hl 3 rfl) ?_
        have hc64 : M55 (c + 1) = some (sObj 4 [.ref (c + 2), .ref (c + 4), .ref (c + 6), .ref (c + 8), .ref (c + 10), .ref (c + 12), .ref (c + 14), .int (sI (f 571))]) := (hf61 (c + 1) (by omega)).trans hx47
        have hc65 : stK G M55 (c + 4) 2 (f 569) 80 (tvC f) := hx49.fr (fun x q8 q9 => hf61 x (by omega))
        have hc66 : stK G M55 (c + 6) 2 4 8 (tvD f) := hx50.fr (fun x q8 q9 => hf61 x (by omega))
        have hc67 : stK G M55 (c + 8) 6 6 36 (tvP f) := hx51.fr (fun x q8 q9 => hf61 x (by omega))
        have hc68 : stK G M55 (c + 10) 5 (f 570) 300 (tvT f) := hx52.fr (fun x q8 q9 => hf61 x (by omega))
        have hc69 : stK G M55 (c + 12) 4 (f 572) 80 (tvW f) := hx53.fr (fun x q8 q9 => hf61 x (by omega))
        have hc70 : stK G M55 (c + 14) 3 (f 573) 24 (tvO f) := hx54.fr (fun x q8 q9 => hf61 x (by omega))
        have hy9 : stC G M55 (c + 1) (iup f (50 + s) d) := stC_u0 kn0 hc64 (by rw [show (iup f (50 + s) d) 568 = f 568 from by unfold iup; (repeat (first | rw [if_pos (by omega)] | rw [if_neg (by omega)]))]; exact hc60.c (fun i j q1 q2 q3 q4 => lyF_t (by omega) i j (by omega) (by omega))) hc65 hc66 hc67 hc68 hc69 hc70 (fun q w1 w2 w3 w4 => by unfold iup; (repeat (first | rw [if_pos (by omega)] | rw [if_neg (by omega)])))
        refine sk_VP E hV (As := [.int (sI d)]) (rest := []) (kX6_whyNot l_ G b_ M55 N37 (c + 1) (iup f (50 + s) d) d hy9 (ok_ly hok (by omega) (by omega)) (by omega)) (cwV 1 S.2.2.2.2 gX10_lay_X6_whyNot rfl rfl rfl (by decide +kernel) ⟨Nat.le_of_ble_eq_true rfl, Nat.le_of_ble_eq_true rfl⟩) (ci := 4) hc64 rfl rfl rfl hl.1 (Nat.le_of_ble_eq_true rfl) dX10_lay_55 (c1 := 17) (s1 := 2912) ⟨⟨rfl, rfl⟩, by decide, by decide⟩ (fun H locs hV => ?_)
        rw [wl_e hok hI (by omega) (by omega)]
        refine lv_istore (lv' := [(4, .int (sI (whyL f s d))), (3, .int (sI (f (50 + s)))), (0, .ref c), (1, .int (sI s)), (2, .int (sI d))]) hx_ hb_ dX10_lay_58 hl (by decide) rfl (fun ls hl => ?_)
        refine lv_iload hx_ hb_ dX10_lay_60 (lv_at hl 0 rfl) ?_
        refine sz_eq (tgt := 78) S dX10_lay_62 (by decide) (by have := whyL_r f s d; omega) (fun hw9 => ?_) (fun hw9 => ?_)
        · refine lv_iload hx_ hb_ dX10_lay_78 (lv_at hl 0 rfl) ?_
          have hc71 : kpC G M55 (c + 31) kb kn140 (chn ch) (fsn ch fs f) := hc43.fr (fun x q8 => hf61 x (by omega))
          exact xr_i E hQ dX10_lay_80 ⟨Nat.le_of_ble_eq_true rfl, Nat.le_of_ble_eq_true rfl⟩ hV (⟨_, by omega, fun x q0 q1 q2 q3 => (((hf61 x (by omega)).trans (hf44 x (by omega) (by omega) (by omega))).trans (hf30 x )).trans (hf14 x ), ⟨(by omega), rfl, hc63, by unfold layF; rw [if_pos hw9]; exact stC_u0 kn0 hc64 (by rw [show (iup f (50 + s) d) 568 = f 568 from by unfold iup; (repeat (first | rw [if_pos (by omega)] | rw [if_neg (by omega)]))]; exact hc60.c (fun i j q1 q2 q3 q4 => lyF_t (by omega) i j (by omega) (by omega))) hc65 hc66 hc67 hc68 hc69 hc70 (fun q w1 w2 w3 w4 => by unfold iup; (repeat (first | rw [if_pos (by omega)] | rw [if_neg (by omega)]))), hc71⟩⟩)
        · refine lv_aload_n hx_ hb_ dX10_lay_65 rfl (lv_at hl 2 rfl) ?_
          refine sc_get (ci := 8) (C := RX10) (T := TX10) (n := 11) S hK hV inX10_ hc63 rfl 0 (by decide) (S.2.2.2.2 _ (List.mem_of_getElem? (i := 1) rfl)) rfl rfl dX10_lay_66 ?_
          refine sc_getN (ci := 4) (C := RX6) (T := TX6) (n := 8) S hK hV inX6_ hc64 rfl 0 (by decide) (E.2.2.2.2.2.1.1.2.1 _ (List.mem_of_getElem? (i := 3) rfl)) rfl rfl dX10_lay_69 ?_
          refine lv_iload_n hx_ hb_ dX10_lay_72 rfl (lv_at hl 3 rfl) ?_
          refine si_const S dX10_lay_73 ?_
          refine lv_iload_n hx_ hb_ dX10_lay_74 rfl (lv_at hl 1 rfl) ?_
          refine sk_Vv E hV (As := [.int (sI s), .int (sI 5), .int (sI (f (50 + s)))]) (rest := []) (kTw l_ G b_ M55 N37 (c + 2) 7 (f 568) 70 (tvU (tvS f) s 5 d) s 5 (f (50 + s)) hc60 (by omega) (by omega)) (cwV 3 S.2.2.2.2 gX10_lay_X8_set rfl rfl rfl (by decide +kernel) ⟨Nat.le_of_ble_eq_true rfl, Nat.le_of_ble_eq_true rfl⟩) (ci := 6) (hc60).1 rfl rfl rfl hl.1 (Nat.le_of_ble_eq_true rfl) dX10_lay_75 (c1 := 17) (s1 := 2912) ⟨⟨rfl, rfl⟩, by decide, by decide⟩ (fun M72 N73 H locs hp74 hV => ?_)
          obtain ⟨hN76, hc77, hf78⟩ := hp74
          rw [hN76] at hV
          refine lv_iload hx_ hb_ dX10_lay_78 (lv_at hl 0 rfl) ?_
          have hc79 : M72 (c + 1) = some (sObj 4 [.ref (c + 2), .ref (c + 4), .ref (c + 6), .ref (c + 8), .ref (c + 10), .ref (c + 12), .ref (c + 14), .int (sI (f 571))]) := (hf78 (c + 1) (by omega)).trans hc64
          have hc80 : stK G M72 (c + 4) 2 (f 569) 80 (tvC f) := hc65.fr (fun x q8 q9 => hf78 x (by omega))
          have hc81 : stK G M72 (c + 6) 2 4 8 (tvD f) := hc66.fr (fun x q8 q9 => hf78 x (by omega))
          have hc82 : stK G M72 (c + 8) 6 6 36 (tvP f) := hc67.fr (fun x q8 q9 => hf78 x (by omega))
          have hc83 : stK G M72 (c + 10) 5 (f 570) 300 (tvT f) := hc68.fr (fun x q8 q9 => hf78 x (by omega))
          have hc84 : stK G M72 (c + 12) 4 (f 572) 80 (tvW f) := hc69.fr (fun x q8 q9 => hf78 x (by omega))
          have hc85 : stK G M72 (c + 14) 3 (f 573) 24 (tvO f) := hc70.fr (fun x q8 q9 => hf78 x (by omega))
          have hc86 : M72 c = some (xO c kn140 (chn ch)) := (hf78 c (by omega)).trans hc63
          have hc87 : kpC G M72 (c + 31) kb kn140 (chn ch) (fsn ch fs f) := hc43.fr (fun x q8 => (hf78 x (by omega)).trans (hf61 x (by omega)))
          exact xr_i E hQ dX10_lay_80 ⟨Nat.le_of_ble_eq_true rfl, Nat.le_of_ble_eq_true rfl⟩ hV (⟨_, by omega, fun x q0 q1 q2 q3 => ((((hf78 x (by omega)).trans (hf61 x (by omega))).trans (hf44 x (by omega) (by omega) (by omega))).trans (hf30 x )).trans (hf14 x ), ⟨(by omega), rfl, hc86, by unfold layF; rw [if_neg hw9]; exact stC_u0 kn0 hc79 (hc77.c (fun i j q1 q2 q3 q4 => lyF_b i j)) hc80 hc81 hc82 hc83 hc84 hc85 (fun q w1 w2 w3 w4 => rfl), hc87⟩⟩)
      · refine si_const S dX10_lay_46 ?_
        refine lv_goto (tgt := 58) hx_ hb_ dX10_lay_47 (by decide) ?_
        refine lv_istore (lv' := [(4, .int (sI 0)), (3, .int (sI (f (50 + s)))), (0, .ref c), (1, .int (sI s)), (2, .int (sI d))]) hx_ hb_ dX10_lay_58 hl (by decide) rfl (fun ls hl => ?_)
        refine lv_iload hx_ hb_ dX10_lay_60 (lv_at hl 0 rfl) ?_
        refine sz_eq (tgt := 78) S dX10_lay_62 (by decide) (by have := whyL_r f s d; omega) (fun _ => ?_) (fun hw9 => absurd hw9 (by omega))
        refine lv_iload hx_ hb_ dX10_lay_78 (lv_at hl 0 rfl) ?_
        have hc88 : M55 (c + 1) = some (sObj 4 [.ref (c + 2), .ref (c + 4), .ref (c + 6), .ref (c + 8), .ref (c + 10), .ref (c + 12), .ref (c + 14), .int (sI (f 571))]) := (hf61 (c + 1) (by omega)).trans hx47
        have hc89 : stK G M55 (c + 4) 2 (f 569) 80 (tvC f) := hx49.fr (fun x q8 q9 => hf61 x (by omega))
        have hc90 : stK G M55 (c + 6) 2 4 8 (tvD f) := hx50.fr (fun x q8 q9 => hf61 x (by omega))
        have hc91 : stK G M55 (c + 8) 6 6 36 (tvP f) := hx51.fr (fun x q8 q9 => hf61 x (by omega))
        have hc92 : stK G M55 (c + 10) 5 (f 570) 300 (tvT f) := hx52.fr (fun x q8 q9 => hf61 x (by omega))
        have hc93 : stK G M55 (c + 12) 4 (f 572) 80 (tvW f) := hx53.fr (fun x q8 q9 => hf61 x (by omega))
        have hc94 : stK G M55 (c + 14) 3 (f 573) 24 (tvO f) := hx54.fr (fun x q8 q9 => hf61 x (by omega))
        have hc95 : M55 c = some (xO c kn140 (chn ch)) := (hf61 c (by omega)).trans hc42
        have hc96 : kpC G M55 (c + 31) kb kn140 (chn ch) (fsn ch fs f) := hc43.fr (fun x q8 => hf61 x (by omega))
        exact xr_i E hQ dX10_lay_80 ⟨Nat.le_of_ble_eq_true rfl, Nat.le_of_ble_eq_true rfl⟩ hV (⟨_, by omega, fun x q0 q1 q2 q3 => (((hf61 x (by omega)).trans (hf44 x (by omega) (by omega) (by omega))).trans (hf30 x )).trans (hf14 x ), ⟨(by omega), by unfold whyL; rw [if_pos (by omega)], hc95, by unfold layF; rw [if_pos (by unfold whyL; rw [if_pos (by omega)])]; exact stC_u0 kn0 hc88 (by rw [show (iup f (50 + s) d) 568 = f 568 from by unfold iup; (repeat (first | rw [if_pos (by omega)] | rw [if_neg (by omega)]))]; exact hc60.c (fun i j q1 q2 q3 q4 => lyF_t (by omega) i j (by omega) (by omega))) hc89 hc90 hc91 hc92 hc93 hc94 (fun q w1 w2 w3 w4 => by unfold iup; (repeat (first | rw [if_pos (by omega)] | rw [if_neg (by omega)]))), hc96⟩⟩)

abbrev rmX10_tell : Room := { frames := 7, cells := 25, slots := 3000, locals := 146 }
set_option maxHeartbeats 4000000 in
set_option maxRecDepth 100000 in
theorem kX10_tell (l_ : Launch) (G : sG) (b_ : Nat) (M : sM) (N : Nat) (c : Nat) (kn ch : Int) (f : sF) (kb : Nat) (fs : Int → sF) (s d h2 : Int) (hc0 : M c = some (xO c kn ch)) (hst : stC G M (c + 1) f) (hkp : kpC G M (c + 31) kb kn ch fs) (hlt : l_.stackTraces = false) (hok : sOk f) (hkb : c + 60 ≤ kb) (hkN : kb ≤ N) (hr : sR s ∧ sR d ∧ sR h2) : xcI l_ yX10_tell wsX10_tell rmX10_tell G b_ M N [.ref c, .int (sI s), .int (sI d), .int (sI h2)] (fun z_ M1 N1 => ∃ kn1 : Int, N ≤ N1 ∧ (∀ x : Nat, ¬ (x = c) → ¬ (x = c + 31) → ¬ (kb ≤ x) → ¬ (c + 1 ≤ x ∧ x < c + 1 + 15) → M1 x = M x) ∧ ((((0 ≤ s ∧ s < f 568) ∧ (isDt d ∧ 0 ≤ h2 ∧ h2 ≤ 6) ∧ f 570 < 60) ∧ z_ = f 570 ∧ M1 c = some (xO c kn1 (chn ch)) ∧ stC G M1 (c + 1) (tlF f s (dayI d + 3652) h2) ∧ kpC G M1 (c + 31) kb kn1 (chn ch) (fsn ch fs f)))) (fun E_ M1 N1 => ∃ kn1 : Int, N ≤ N1 ∧ (∀ x : Nat, ¬ (x = c) → ¬ (x = c + 31) → ¬ (kb ≤ x) → ¬ (c + 1 ≤ x ∧ x < c + 1 + 15) → M1 x = M x) ∧ (((¬ (0 ≤ s ∧ s < f 568)) ∧ E_ = "java/lang/IndexOutOfBoundsException" ∧ M1 c = some (xO c kn1 ch) ∧ stC G M1 (c + 1) f ∧ kpC G M1 (c + 31) kb kn1 ch fs) ∨ (((0 ≤ s ∧ s < f 568) ∧ ¬ (isDt d ∧ 0 ≤ h2 ∧ h2 ≤ 6)) ∧ E_ = "java/lang/IllegalArgumentException" ∧ M1 c = some (xO c kn1 ch) ∧ stC G M1 (c + 1) f ∧ kpC G M1 (c + 31) kb kn1 ch fs) ∨ (((0 ≤ s ∧ s < f 568) ∧ (isDt d ∧ 0 ≤ h2 ∧ h2 ≤ 6) ∧ 60 ≤ f 570) ∧ E_ = "java/lang/IllegalStateException" ∧ M1 c = some (xO c kn1 ch) ∧ stC G M1 (c + 1) f ∧ kpC G M1 (c + 31) kb kn1 ch fs))) := by
  refine xcE.ofI (cc := cX10_tell) (nL := 5) (ret := (some .int)) (by decide) rfl (Nat.le_of_ble_eq_true rfl) ?_
  intro p_ e_ s_ m_ args_ below_ meth_ c_ ls Q hQ E hF_ hxt_ hl
  have E : sE p_ l_ e_ rmX10_tell s_ m_ args_ below_ meth_ c_ cX10_tell 5 wsX10_tell RX10 "tell" (some .int) G b_ M N := E
  have S := E.1
  have hx_ := S.1
  have hb_ := S.2.1
  have hK := E.2.2.2.2.1
  have hV := E.2.2.2.2.2.2
  have hl : lv_has ls 5 [(0, .ref c), (1, .int (sI s)), (2, .int (sI d)), (3, .int (sI h2))] := hl
  have inX10_ : ∀ w ∈ wsX100, w ∈ wsX10_tell := fun _ h => List.mem_cons_of_mem _ (List.mem_append_left _ (List.mem_append_left _ (List.mem_append_left _ (List.mem_append_left _ (List.mem_append_left _ (List.mem_append_right _ h))))))
  have inX6_ : ∀ w ∈ wsX60, w ∈ wsX10_tell := fun _ h => List.mem_cons_of_mem _ (List.mem_append_left _ (List.mem_append_left _ (List.mem_append_left _ (List.mem_append_left _ (List.mem_append_right _ h)))))
  have inX8_ : ∀ w ∈ wsX80, w ∈ wsX10_tell := fun _ h => List.mem_cons_of_mem _ (List.mem_append_left _ (List.mem_append_left _ (List.mem_append_left _ (List.mem_append_right _ h))))
  have hbN : b_ ≤ N := by have h1 := hV.1.1; have h2 := hV.2.2; omega
  have kn0 := sOk_N hok
  refine lv_aload_n hx_ hb_ dX10_tell_0 rfl (lv_at hl 0 rfl) ?_
  refine lv_iload_n hx_ hb_ dX10_tell_1 rfl (lv_at hl 1 rfl) ?_
  refine xk_Vv E hF_ hxt_ hQ hV (As := [.int (sI s)]) (rest := []) (kX10_needStone l_ G b_ M N c kn ch f s hc0 hst (by omega) (by omega) (by omega)) (cwV 1 S.2.2.2.2 gX10_tell_X10_needStone rfl rfl rfl (by decide +kernel) ⟨Nat.le_of_ble_eq_true rfl, Nat.le_of_ble_eq_true rfl⟩) (ci := 8) hc0 rfl rfl rfl hl.1 (Nat.le_of_ble_eq_true rfl) dX10_tell_2 (c1 := 1) (s1 := 6) ⟨⟨rfl, rfl⟩, by decide, by decide⟩ ⟨Nat.le_of_ble_eq_true rfl, Nat.le_of_ble_eq_true rfl⟩ ?_ (fun M1 N2 H locs hp3 hV => ?_)
  · rintro E9 M9 N9 ⟨hN5, hf6, hq7⟩
    rcases hq7 with ⟨c8, ee9⟩
    · have hc10 : M9 c = some (xO c kn ch) := (hf6 c ).trans hc0
      have hc11 : stC G M9 (c + 1) f := hst.fr (fun x q8 q9 => hf6 x )
      have hc12 : kpC G M9 (c + 31) kb kn ch fs := hkp.fr (fun x q8 => hf6 x )
      exact ⟨_, by omega, fun x q0 q1 q2 q3 => hf6 x , Or.inl ⟨(by first | exact c8 | omega), ee9, hc10, hc11, hc12⟩⟩
  obtain ⟨hN13, hf14, hq15⟩ := hp3
  rw [hN13] at hV
  rcases hq15 with c16
  · refine lv_iload_n hx_ hb_ dX10_tell_5 rfl (lv_at hl 2 rfl) ?_
    refine xk_Sv E hF_ hxt_ hQ hV (As := [.int (sI d)]) (rest := []) (kX10_needDate l_ G b_ M1 N d (by omega) (by omega)) (va_cwS 1 S.2.2.2.2 gX10_tell_X10_needDate rfl rfl rfl (by decide +kernel) ⟨Nat.le_of_ble_eq_true rfl, Nat.le_of_ble_eq_true rfl⟩) rfl rfl hl.1 (Nat.le_of_ble_eq_true rfl) dX10_tell_6 (c1 := 2) (s1 := 12) ⟨⟨rfl, rfl⟩, by decide, by decide⟩ ⟨Nat.le_of_ble_eq_true rfl, Nat.le_of_ble_eq_true rfl⟩ ?_ (fun M17 N18 H locs hp19 hV => ?_)
    · rintro E9 M9 N9 ⟨hN21, hf22, hq23⟩
      rcases hq23 with ⟨c24, ee25⟩
      · have hc26 : M9 c = some (xO c kn ch) := ((hf22 c ).trans (hf14 c )).trans hc0
        have hc27 : stC G M9 (c + 1) f := hst.fr (fun x q8 q9 => (hf22 x ).trans (hf14 x ))
        have hc28 : kpC G M9 (c + 31) kb kn ch fs := hkp.fr (fun x q8 => (hf22 x ).trans (hf14 x ))
        exact ⟨_, by omega, fun x q0 q1 q2 q3 => (hf22 x ).trans (hf14 x ), Or.inr (Or.inl ⟨(⟨by omega, fun h => c24 h.1⟩), ee25, hc26, hc27, hc28⟩)⟩
    obtain ⟨hN29, hf30, hq31⟩ := hp19
    rw [hN29] at hV
    rcases hq31 with c32
    · refine lv_iload_n hx_ hb_ dX10_tell_9 rfl (lv_at hl 3 rfl) ?_
      refine si_const S dX10_tell_10 ?_
      refine si_bipush S dX10_tell_11 (by decide) ?_
      refine xk_Sv E hF_ hxt_ hQ hV (As := [.int (sI h2), .int (sI 0), .int (sI 6)]) (rest := []) (kX10_needRange l_ G b_ M17 N h2 0 6 (by omega) (by omega)) (va_cwS 3 S.2.2.2.2 gX10_tell_X10_needRange rfl rfl rfl (by decide +kernel) ⟨Nat.le_of_ble_eq_true rfl, Nat.le_of_ble_eq_true rfl⟩) rfl rfl hl.1 (Nat.le_of_ble_eq_true rfl) dX10_tell_13 (c1 := 3) (s1 := 18) ⟨⟨rfl, rfl⟩, by decide, by decide⟩ ⟨Nat.le_of_ble_eq_true rfl, Nat.le_of_ble_eq_true rfl⟩ ?_ (fun M33 N34 H locs hp35 hV => ?_)
      · rintro E9 M9 N9 ⟨hN37, hf38, hq39⟩
        rcases hq39 with ⟨c40, ee41⟩
        · have hc42 : M9 c = some (xO c kn ch) := (((hf38 c ).trans (hf30 c )).trans (hf14 c )).trans hc0
          have hc43 : stC G M9 (c + 1) f := hst.fr (fun x q8 q9 => ((hf38 x ).trans (hf30 x )).trans (hf14 x ))
          have hc44 : kpC G M9 (c + 31) kb kn ch fs := hkp.fr (fun x q8 => ((hf38 x ).trans (hf30 x )).trans (hf14 x ))
          exact ⟨_, by omega, fun x q0 q1 q2 q3 => ((hf38 x ).trans (hf30 x )).trans (hf14 x ), Or.inr (Or.inl ⟨(⟨by omega, fun h => c40 h.2⟩), ee41, hc42, hc43, hc44⟩)⟩
      obtain ⟨hN45, hf46, hq47⟩ := hp35
      rw [hN45] at hV
      rcases hq47 with c48
      · refine lv_aload_n hx_ hb_ dX10_tell_16 rfl (lv_at hl 0 rfl) ?_
        have hc49 : M33 c = some (xO c kn ch) := (((hf46 c ).trans (hf30 c )).trans (hf14 c )).trans hc0
        refine sc_get (ci := 8) (C := RX10) (T := TX10) (n := 11) S hK hV inX10_ hc49 rfl 0 (by decide) (S.2.2.2.2 _ (List.mem_of_getElem? (i := 3) rfl)) rfl rfl dX10_tell_17 ?_
        have hc50 : stC G M33 (c + 1) f := hst.fr (fun x q8 q9 => ((hf46 x ).trans (hf30 x )).trans (hf14 x ))
        refine sc_getN (ci := 4) (C := RX6) (T := TX6) (n := 8) S hK hV inX6_ (hc50).1 rfl 4 (by decide) (E.2.2.2.2.2.1.1.2.1 _ (List.mem_of_getElem? (i := 10) rfl)) rfl rfl dX10_tell_20 ?_
        refine sk_VP E hV (As := []) (rest := []) (kTf l_ G b_ M33 N (c + 10) 5 (f 570) 300 (tvT f) (60 ≤ f 570) ((hc50).2.2.2.2.2.1) (by omega) (by omega)) (cwV 0 S.2.2.2.2 gX10_tell_X8_isFull rfl rfl rfl (by decide +kernel) ⟨Nat.le_of_ble_eq_true rfl, Nat.le_of_ble_eq_true rfl⟩) (ci := 6) ((hc50).2.2.2.2.2.1).1 rfl rfl rfl hl.1 (Nat.le_of_ble_eq_true rfl) dX10_tell_23 (c1 := 3) (s1 := 18) ⟨⟨rfl, rfl⟩, by decide, by decide⟩ (fun H locs hV => ?_)
        refine sq_eq (tgt := 39) S dX10_tell_26 (by decide) (fun c51 => ?_) (fun c51 => ?_)
        · refine lv_aload_n hx_ hb_ dX10_tell_39 rfl (lv_at hl 0 rfl) ?_
          have hc52 : kpC G M33 (c + 31) kb kn ch fs := hkp.fr (fun x q8 => ((hf46 x ).trans (hf30 x )).trans (hf14 x ))
          refine sk_Vv E hV (As := []) (rest := []) (kX10_keepState l_ G b_ M33 N c kn ch f kb fs hc49 hc50 hc52 (by omega) (by omega) (by omega)) (cwV 0 S.2.2.2.2 gX10_tell_X10_keepState rfl rfl rfl (by decide +kernel) ⟨Nat.le_of_ble_eq_true rfl, Nat.le_of_ble_eq_true rfl⟩) (ci := 8) hc49 rfl rfl rfl hl.1 (Nat.le_of_ble_eq_true rfl) dX10_tell_40 (c1 := 18) (s1 := 2918) ⟨⟨rfl, rfl⟩, by decide, by decide⟩ (fun M53 N54 H locs hp55 hV => ?_)
          obtain ⟨kn157, hN58, hc59, hc60, hf61⟩ := hp55
          have hc62 : stC G M53 (c + 1) f := hc50.fr (fun x q8 q9 => hf61 x (by omega) (by omega) (by omega))
          have hx63 : M53 (c + 1) = some (sObj 4 [.ref (c + 2), .ref (c + 4), .ref (c + 6), .ref (c + 8), .ref (c + 10), .ref (c + 12), .ref (c + 14), .int (sI (f 571))]) := (hc62).1
          have hx64 : stK G M53 (c + 2) 7 (f 568) 70 (tvS f) := (hc62).2.1
          have hx65 : stK G M53 (c + 4) 2 (f 569) 80 (tvC f) := (hc62).2.2.1
          have hx66 : stK G M53 (c + 6) 2 4 8 (tvD f) := (hc62).2.2.2.1
          have hx67 : stK G M53 (c + 8) 6 6 36 (tvP f) := (hc62).2.2.2.2.1
          have hx68 : stK G M53 (c + 10) 5 (f 570) 300 (tvT f) := (hc62).2.2.2.2.2.1
          have hx69 : stK G M53 (c + 12) 4 (f 572) 80 (tvW f) := (hc62).2.2.2.2.2.2.1
          have hx70 : stK G M53 (c + 14) 3 (f 573) 24 (tvO f) := (hc62).2.2.2.2.2.2.2
          refine lv_aload_n hx_ hb_ dX10_tell_43 rfl (lv_at hl 0 rfl) ?_
          refine sc_get (ci := 8) (C := RX10) (T := TX10) (n := 11) S hK hV inX10_ hc59 rfl 0 (by decide) (S.2.2.2.2 _ (List.mem_of_getElem? (i := 3) rfl)) rfl rfl dX10_tell_44 ?_
          refine lv_dup hx_ hb_ dX10_tell_47 rfl ?_
          refine sc_getN (ci := 4) (C := RX6) (T := TX6) (n := 8) S hK hV inX6_ hx63 rfl 7 (by decide) (E.2.2.2.2.2.1.1.2.1 _ (List.mem_of_getElem? (i := 14) rfl)) rfl rfl dX10_tell_48 ?_
          refine si_const S dX10_tell_51 ?_
          refine si_add S dX10_tell_52 ?_
          refine sc_putN (ci := 4) (C := RX6) (T := TX6) (n := 8) S hK hV inX6_ tyX6_ok nmX6 hx63 rfl 7 (by decide) (E.2.2.2.2.2.1.1.2.1 _ (List.mem_of_getElem? (i := 14) rfl)) rfl rfl rfl rfl (Nat.le_of_ble_eq_true rfl) dX10_tell_53 (fs1 := [.ref (c + 2), .ref (c + 4), .ref (c + 6), .ref (c + 8), .ref (c + 10), .ref (c + 12), .ref (c + 14), .int (sI ((f 571) + 1))]) rfl (fun M71 H locs hM71 hV => ?_)
          have hc72 : M71 (c + 1) = some (sObj 4 [.ref (c + 2), .ref (c + 4), .ref (c + 6), .ref (c + 8), .ref (c + 10), .ref (c + 12), .ref (c + 14), .int (sI ((f 571) + 1))]) := (congrFun hM71 (c + 1)).trans (va_up_self M53 (c + 1) _)
          refine lv_aload_n hx_ hb_ dX10_tell_56 rfl (lv_at hl 0 rfl) ?_
          have hc73 : M71 c = some (xO c kn157 (chn ch)) := ((congrFun hM71 c).trans (va_up_ne M53 _ (by omega))).trans hc59
          refine sc_get (ci := 8) (C := RX10) (T := TX10) (n := 11) S hK hV inX10_ hc73 rfl 0 (by decide) (S.2.2.2.2 _ (List.mem_of_getElem? (i := 3) rfl)) rfl rfl dX10_tell_57 ?_
          refine sc_getN (ci := 4) (C := RX6) (T := TX6) (n := 8) S hK hV inX6_ hc72 rfl 4 (by decide) (E.2.2.2.2.2.1.1.2.1 _ (List.mem_of_getElem? (i := 10) rfl)) rfl rfl dX10_tell_60 ?_
          have hc74 : stK G M71 (c + 10) 5 (f 570) 300 (tvT f) := hx68.fr (fun x q8 q9 => (congrFun hM71 x).trans (va_up_ne M53 _ (by omega)))
          refine sk_Vi E hV (As := []) (rest := []) (kTa l_ G b_ M71 N54 (c + 10) 5 (f 570) 300 (tvT f) hc74 (by omega)) (cwV 0 S.2.2.2.2 gX10_tell_X8_add rfl rfl rfl (by decide +kernel) ⟨Nat.le_of_ble_eq_true rfl, Nat.le_of_ble_eq_true rfl⟩) (ci := 6) (hc74).1 rfl rfl rfl hl.1 (Nat.le_of_ble_eq_true rfl) dX10_tell_63 (c1 := 18) (s1 := 2918) ⟨⟨rfl, rfl⟩, by decide, by decide⟩ (fun z78 M75 N76 H locs hp77 hV => ?_)
          obtain ⟨ez79, hN80, hc81, hf82⟩ := hp77
          rw [hN80] at hV
          rw [ez79]
          refine lv_istore (lv' := [(4, .int (sI (f 570))), (0, .ref c), (1, .int (sI s)), (2, .int (sI d)), (3, .int (sI h2))]) hx_ hb_ dX10_tell_66 hl (by decide) rfl (fun ls hl => ?_)
          refine lv_aload_n hx_ hb_ dX10_tell_68 rfl (lv_at hl 1 rfl) ?_
          have hc83 : M75 c = some (xO c kn157 (chn ch)) := (hf82 c (by omega) (by omega)).trans hc73
          refine sc_get (ci := 8) (C := RX10) (T := TX10) (n := 11) S hK hV inX10_ hc83 rfl 0 (by decide) (S.2.2.2.2 _ (List.mem_of_getElem? (i := 3) rfl)) rfl rfl dX10_tell_69 ?_
          have hc84 : M75 (c + 1) = some (sObj 4 [.ref (c + 2), .ref (c + 4), .ref (c + 6), .ref (c + 8), .ref (c + 10), .ref (c + 12), .ref (c + 14), .int (sI ((f 571) + 1))]) := (hf82 (c + 1) (by omega) (by omega)).trans hc72
          refine sc_getN (ci := 4) (C := RX6) (T := TX6) (n := 8) S hK hV inX6_ hc84 rfl 4 (by decide) (E.2.2.2.2.2.1.1.2.1 _ (List.mem_of_getElem? (i := 10) rfl)) rfl rfl dX10_tell_72 ?_
          refine lv_iload hx_ hb_ dX10_tell_75 (lv_at hl 0 rfl) ?_
          refine si_const S dX10_tell_77 ?_
          refine lv_iload_n hx_ hb_ dX10_tell_78 rfl (lv_at hl 2 rfl) ?_
          refine sk_Vv E hV (As := [.int (sI (f 570)), .int (sI 0), .int (sI s)]) (rest := []) (kTw l_ G b_ M75 N54 (c + 10) 5 ((f 570) + 1) 300 (tvZ (tvT f) (f 570)) (f 570) 0 s hc81 (by omega) (by omega)) (cwV 3 S.2.2.2.2 gX10_tell_X8_set rfl rfl rfl (by decide +kernel) ⟨Nat.le_of_ble_eq_true rfl, Nat.le_of_ble_eq_true rfl⟩) (ci := 6) (hc81).1 rfl rfl rfl hl.1 (Nat.le_of_ble_eq_true rfl) dX10_tell_79 (c1 := 18) (s1 := 2918) ⟨⟨rfl, rfl⟩, by decide, by decide⟩ (fun M85 N86 H locs hp87 hV => ?_)
          obtain ⟨hN89, hc90, hf91⟩ := hp87
          rw [hN89] at hV
          refine lv_aload_n hx_ hb_ dX10_tell_82 rfl (lv_at hl 1 rfl) ?_
          have hc92 : M85 c = some (xO c kn157 (chn ch)) := (hf91 c (by omega)).trans hc83
          refine sc_get (ci := 8) (C := RX10) (T := TX10) (n := 11) S hK hV inX10_ hc92 rfl 0 (by decide) (S.2.2.2.2 _ (List.mem_of_getElem? (i := 3) rfl)) rfl rfl dX10_tell_83 ?_
          have hc93 : M85 (c + 1) = some (sObj 4 [.ref (c + 2), .ref (c + 4), .ref (c + 6), .ref (c + 8), .ref (c + 10), .ref (c + 12), .ref (c + 14), .int (sI ((f 571) + 1))]) := (hf91 (c + 1) (by omega)).trans hc84
          refine sc_getN (ci := 4) (C := RX6) (T := TX6) (n := 8) S hK hV inX6_ hc93 rfl 4 (by decide) (E.2.2.2.2.2.1.1.2.1 _ (List.mem_of_getElem? (i := 10) rfl)) rfl rfl dX10_tell_86 ?_
          refine lv_iload hx_ hb_ dX10_tell_89 (lv_at hl 0 rfl) ?_
          refine si_const S dX10_tell_91 ?_
          refine lv_iload_n hx_ hb_ dX10_tell_92 rfl (lv_at hl 3 rfl) ?_
          refine sk_Vv E hV (As := [.int (sI (f 570)), .int (sI 1), .int (sI d)]) (rest := []) (kTw l_ G b_ M85 N54 (c + 10) 5 ((f 570) + 1) 300 (tvU (tvZ (tvT f) (f 570)) (f 570) 0 s) (f 570) 1 d hc90 (by omega) (by omega)) (cwV 3 S.2.2.2.2 gX10_tell_X8_set rfl rfl rfl (by decide +kernel) ⟨Nat.le_of_ble_eq_true rfl, Nat.le_of_ble_eq_true rfl⟩) (ci := 6) (hc90).1 rfl rfl rfl hl.1 (Nat.le_of_ble_eq_true rfl) dX10_tell_93 (c1 := 18) (s1 := 2918) ⟨⟨rfl, rfl⟩, by decide, by decide⟩ (fun M94 N95 H locs hp96 hV => ?_)
          obtain ⟨hN98, hc99, hf100⟩ := hp96
          rw [hN98] at hV
          refine lv_aload_n hx_ hb_ dX10_tell_96 rfl (lv_at hl 1 rfl) ?_
          have hc101 : M94 c = some (xO c kn157 (chn ch)) := (hf100 c (by omega)).trans hc92
          refine sc_get (ci := 8) (C := RX10) (T := TX10) (n := 11) S hK hV inX10_ hc101 rfl 0 (by decide) (S.2.2.2.2 _ (List.mem_of_getElem? (i := 3) rfl)) rfl rfl dX10_tell_97 ?_
          have hc102 : M94 (c + 1) = some (sObj 4 [.ref (c + 2), .ref (c + 4), .ref (c + 6), .ref (c + 8), .ref (c + 10), .ref (c + 12), .ref (c + 14), .int (sI ((f 571) + 1))]) := (hf100 (c + 1) (by omega)).trans hc93
          refine sc_getN (ci := 4) (C := RX6) (T := TX6) (n := 8) S hK hV inX6_ hc102 rfl 4 (by decide) (E.2.2.2.2.2.1.1.2.1 _ (List.mem_of_getElem? (i := 10) rfl)) rfl rfl dX10_tell_100 ?_
          refine lv_iload hx_ hb_ dX10_tell_103 (lv_at hl 0 rfl) ?_
          refine si_const S dX10_tell_105 ?_
          refine lv_iload_n hx_ hb_ dX10_tell_106 rfl (lv_at hl 4 rfl) ?_
          refine sk_Vv E hV (As := [.int (sI (f 570)), .int (sI 2), .int (sI h2)]) (rest := []) (kTw l_ G b_ M94 N54 (c + 10) 5 ((f 570) + 1) 300 (tvU (tvU (tvZ (tvT f) (f 570)) (f 570) 0 s) (f 570) 1 d) (f 570) 2 h2 hc99 (by omega) (by omega)) (cwV 3 S.2.2.2.2 gX10_tell_X8_set rfl rfl rfl (by decide +kernel) ⟨Nat.le_of_ble_eq_true rfl, Nat.le_of_ble_eq_true rfl⟩) (ci := 6) (hc99).1 rfl rfl rfl hl.1 (Nat.le_of_ble_eq_true rfl) dX10_tell_107 (c1 := 18) (s1 := 2918) ⟨⟨rfl, rfl⟩, by decide, by decide⟩ (fun M103 N104 H locs hp105 hV => ?_)
          obtain ⟨hN107, hc108, hf109⟩ := hp105
          rw [hN107] at hV
          refine lv_aload_n hx_ hb_ dX10_tell_110 rfl (lv_at hl 1 rfl) ?_
          have hc110 : M103 c = some (xO c kn157 (chn ch)) := (hf109 c (by omega)).trans hc101
          refine sc_get (ci := 8) (C := RX10) (T := TX10) (n := 11) S hK hV inX10_ hc110 rfl 0 (by decide) (S.2.2.2.2 _ (List.mem_of_getElem? (i := 3) rfl)) rfl rfl dX10_tell_111 ?_
          have hc111 : M103 (c + 1) = some (sObj 4 [.ref (c + 2), .ref (c + 4), .ref (c + 6), .ref (c + 8), .ref (c + 10), .ref (c + 12), .ref (c + 14), .int (sI ((f 571) + 1))]) := (hf109 (c + 1) (by omega)).trans hc102
          refine sc_getN (ci := 4) (C := RX6) (T := TX6) (n := 8) S hK hV inX6_ hc111 rfl 4 (by decide) (E.2.2.2.2.2.1.1.2.1 _ (List.mem_of_getElem? (i := 10) rfl)) rfl rfl dX10_tell_114 ?_
          refine lv_iload hx_ hb_ dX10_tell_117 (lv_at hl 0 rfl) ?_
          refine si_const S dX10_tell_119 ?_
          refine lv_aload_n hx_ hb_ dX10_tell_120 rfl (lv_at hl 1 rfl) ?_
          refine sc_get (ci := 8) (C := RX10) (T := TX10) (n := 11) S hK hV inX10_ hc110 rfl 0 (by decide) (S.2.2.2.2 _ (List.mem_of_getElem? (i := 3) rfl)) rfl rfl dX10_tell_121 ?_
          refine sc_getN (ci := 4) (C := RX6) (T := TX6) (n := 8) S hK hV inX6_ hc111 rfl 7 (by decide) (E.2.2.2.2.2.1.1.2.1 _ (List.mem_of_getElem? (i := 14) rfl)) rfl rfl dX10_tell_124 ?_
          refine sk_Vv E hV (As := [.int (sI (f 570)), .int (sI 3), .int (sI ((f 571) + 1))]) (rest := []) (kTw l_ G b_ M103 N54 (c + 10) 5 ((f 570) + 1) 300 (tvU (tvU (tvU (tvZ (tvT f) (f 570)) (f 570) 0 s) (f 570) 1 d) (f 570) 2 h2) (f 570) 3 ((f 571) + 1) hc108 (by omega) (by omega)) (cwV 3 S.2.2.2.2 gX10_tell_X8_set rfl rfl rfl (by decide +kernel) ⟨Nat.le_of_ble_eq_true rfl, Nat.le_of_ble_eq_true rfl⟩) (ci := 6) (hc108).1 rfl rfl rfl hl.1 (Nat.le_of_ble_eq_true rfl) dX10_tell_127 (c1 := 18) (s1 := 2918) ⟨⟨rfl, rfl⟩, by decide, by decide⟩ (fun M112 N113 H locs hp114 hV => ?_)
          obtain ⟨hN116, hc117, hf118⟩ := hp114
          rw [hN116] at hV
          refine lv_aload_n hx_ hb_ dX10_tell_130 rfl (lv_at hl 1 rfl) ?_
          have hc119 : M112 c = some (xO c kn157 (chn ch)) := (hf118 c (by omega)).trans hc110
          refine sc_get (ci := 8) (C := RX10) (T := TX10) (n := 11) S hK hV inX10_ hc119 rfl 0 (by decide) (S.2.2.2.2 _ (List.mem_of_getElem? (i := 3) rfl)) rfl rfl dX10_tell_131 ?_
          have hc120 : M112 (c + 1) = some (sObj 4 [.ref (c + 2), .ref (c + 4), .ref (c + 6), .ref (c + 8), .ref (c + 10), .ref (c + 12), .ref (c + 14), .int (sI ((f 571) + 1))]) := (hf118 (c + 1) (by omega)).trans hc111
          refine sc_getN (ci := 4) (C := RX6) (T := TX6) (n := 8) S hK hV inX6_ hc120 rfl 4 (by decide) (E.2.2.2.2.2.1.1.2.1 _ (List.mem_of_getElem? (i := 10) rfl)) rfl rfl dX10_tell_134 ?_
          refine lv_iload hx_ hb_ dX10_tell_137 (lv_at hl 0 rfl) ?_
          refine si_const S dX10_tell_139 ?_
          refine si_const S dX10_tell_140 ?_
          refine sk_Vv E hV (As := [.int (sI (f 570)), .int (sI 4), .int (sI (-1))]) (rest := []) (kTw l_ G b_ M112 N54 (c + 10) 5 ((f 570) + 1) 300 (tvU (tvU (tvU (tvU (tvZ (tvT f) (f 570)) (f 570) 0 s) (f 570) 1 d) (f 570) 2 h2) (f 570) 3 ((f 571) + 1)) (f 570) 4 (-1) hc117 (by omega) (by omega)) (cwV 3 S.2.2.2.2 gX10_tell_X8_set rfl rfl rfl (by decide +kernel) ⟨Nat.le_of_ble_eq_true rfl, Nat.le_of_ble_eq_true rfl⟩) (ci := 6) (hc117).1 rfl rfl rfl hl.1 (Nat.le_of_ble_eq_true rfl) dX10_tell_141 (c1 := 18) (s1 := 2918) ⟨⟨rfl, rfl⟩, by decide, by decide⟩ (fun M121 N122 H locs hp123 hV => ?_)
          obtain ⟨hN125, hc126, hf127⟩ := hp123
          rw [hN125] at hV
          refine lv_iload hx_ hb_ dX10_tell_144 (lv_at hl 0 rfl) ?_
          have hc128 : M121 (c + 1) = some (sObj 4 [.ref (c + 2), .ref (c + 4), .ref (c + 6), .ref (c + 8), .ref (c + 10), .ref (c + 12), .ref (c + 14), .int (sI ((f 571) + 1))]) := (hf127 (c + 1) (by omega)).trans hc120
          have hc129 : stK G M121 (c + 2) 7 (f 568) 70 (tvS f) := hx64.fr (fun x q8 q9 => ((((((hf127 x (by omega)).trans (hf118 x (by omega))).trans (hf109 x (by omega))).trans (hf100 x (by omega))).trans (hf91 x (by omega))).trans (hf82 x (by omega) (by omega))).trans ((congrFun hM71 x).trans (va_up_ne M53 _ (by omega))))
          have hc130 : stK G M121 (c + 4) 2 (f 569) 80 (tvC f) := hx65.fr (fun x q8 q9 => ((((((hf127 x (by omega)).trans (hf118 x (by omega))).trans (hf109 x (by omega))).trans (hf100 x (by omega))).trans (hf91 x (by omega))).trans (hf82 x (by omega) (by omega))).trans ((congrFun hM71 x).trans (va_up_ne M53 _ (by omega))))
          have hc131 : stK G M121 (c + 6) 2 4 8 (tvD f) := hx66.fr (fun x q8 q9 => ((((((hf127 x (by omega)).trans (hf118 x (by omega))).trans (hf109 x (by omega))).trans (hf100 x (by omega))).trans (hf91 x (by omega))).trans (hf82 x (by omega) (by omega))).trans ((congrFun hM71 x).trans (va_up_ne M53 _ (by omega))))
          have hc132 : stK G M121 (c + 8) 6 6 36 (tvP f) := hx67.fr (fun x q8 q9 => ((((((hf127 x (by omega)).trans (hf118 x (by omega))).trans (hf109 x (by omega))).trans (hf100 x (by omega))).trans (hf91 x (by omega))).trans (hf82 x (by omega) (by omega))).trans ((congrFun hM71 x).trans (va_up_ne M53 _ (by omega))))
          have hc133 : stK G M121 (c + 12) 4 (f 572) 80 (tvW f) := hx69.fr (fun x q8 q9 => ((((((hf127 x (by omega)).trans (hf118 x (by omega))).trans (hf109 x (by omega))).trans (hf100 x (by omega))).trans (hf91 x (by omega))).trans (hf82 x (by omega) (by omega))).trans ((congrFun hM71 x).trans (va_up_ne M53 _ (by omega))))
          have hc134 : stK G M121 (c + 14) 3 (f 573) 24 (tvO f) := hx70.fr (fun x q8 q9 => ((((((hf127 x (by omega)).trans (hf118 x (by omega))).trans (hf109 x (by omega))).trans (hf100 x (by omega))).trans (hf91 x (by omega))).trans (hf82 x (by omega) (by omega))).trans ((congrFun hM71 x).trans (va_up_ne M53 _ (by omega))))
          have hc135 : M121 c = some (xO c kn157 (chn ch)) := (hf127 c (by omega)).trans hc119
          have hc136 : kpC G M121 (c + 31) kb kn157 (chn ch) (fsn ch fs f) := hc60.fr (fun x q8 => ((((((hf127 x (by omega)).trans (hf118 x (by omega))).trans (hf109 x (by omega))).trans (hf100 x (by omega))).trans (hf91 x (by omega))).trans (hf82 x (by omega) (by omega))).trans ((congrFun hM71 x).trans (va_up_ne M53 _ (by omega))))
          exact xr_i E hQ dX10_tell_146 ⟨Nat.le_of_ble_eq_true rfl, Nat.le_of_ble_eq_true rfl⟩ hV (⟨_, by omega, fun x q0 q1 q2 q3 => ((((((((((hf127 x (by omega)).trans (hf118 x (by omega))).trans (hf109 x (by omega))).trans (hf100 x (by omega))).trans (hf91 x (by omega))).trans (hf82 x (by omega) (by omega))).trans ((congrFun hM71 x).trans (va_up_ne M53 _ (by omega)))).trans (hf61 x (by omega) (by omega) (by omega))).trans (hf46 x )).trans (hf30 x )).trans (hf14 x ), ⟨(⟨by omega, ⟨by assumption, by omega, by omega⟩, by omega⟩), rfl, hc135, stC_u9 kn0 (by rw [show (tlF f s (dayI d + 3652) h2) 571 = f 571 + 1 from by unfold tlF iup; (repeat (first | rw [if_pos (by omega)] | rw [if_neg (by omega)]))]; exact hc128) hc129 hc130 hc131 hc132 (by rw [show (tlF f s (dayI d + 3652) h2) 570 = f 570 + 1 from by unfold tlF iup; (repeat (first | rw [if_pos (by omega)] | rw [if_neg (by omega)]))]; exact hc126.c (fun i j q1 q2 q3 q4 => tlF_t (by omega) (dat_dt (by assumption)) i j (by omega) (by omega))) hc133 hc134 (fun q w1 w2 w3 w4 w5 => by unfold tlF iup; (repeat (first | rw [if_pos (by omega)] | rw [if_neg (by omega)]))), hc136⟩⟩)
        · have hc137 : kpC G M33 (c + 31) kb kn ch fs := hkp.fr (fun x q8 => ((hf46 x ).trans (hf30 x )).trans (hf14 x ))
          exact xt_S (own := RX10) (rest := []) E hF_ hxt_ hQ hlt (ik := 80) (is := 253) (ic := 84) (cls := "java/lang/IllegalStateException") (text := "60 are told") (by decide +kernel) xg_IS (List.mem_of_getElem? (i := 1) rfl) (List.mem_of_getElem? (i := 2) rfl) (fun _ h => List.mem_cons_of_mem _ (List.mem_append_left _ (List.mem_append_left _ (List.mem_append_right _ h)))) (List.mem_of_getElem? (i := 13) rfl) hl.1 dX10_tell_29 dX10_tell_32 dX10_tell_33 dX10_tell_35 dX10_tell_38 ⟨Nat.le_of_ble_eq_true rfl, Nat.le_of_ble_eq_true rfl, Nat.le_of_ble_eq_true rfl, Nat.le_of_ble_eq_true rfl⟩ ⟨Nat.le_of_ble_eq_true rfl, Nat.le_of_ble_eq_true rfl⟩ hV (fun N9 h9 => ⟨_, by omega, fun x q0 q1 q2 q3 => ((hf46 x ).trans (hf30 x )).trans (hf14 x ), Or.inr (Or.inr (⟨(⟨by omega, ⟨by assumption, by omega, by omega⟩, by omega⟩), rfl, hc49, hc50, hc137⟩))⟩)

abbrev rmX10_takeBack : Room := { frames := 6, cells := 25, slots := 3000, locals := 125 }
set_option maxHeartbeats 4000000 in
set_option maxRecDepth 100000 in
theorem kX10_takeBack (l_ : Launch) (G : sG) (b_ : Nat) (M : sM) (N : Nat) (c : Nat) (kn ch : Int) (f : sF) (kb : Nat) (fs : Int → sF) (a0 : Int) (hc0 : M c = some (xO c kn ch)) (hst : stC G M (c + 1) f) (hkp : kpC G M (c + 31) kb kn ch fs) (hlt : l_.stackTraces = false) (hok : sOk f) (hkb : c + 60 ≤ kb) (hkN : kb ≤ N) (hr : sR a0) : xcI l_ yX10_takeBack wsX10_takeBack rmX10_takeBack G b_ M N [.ref c, .int (sI a0)] (fun z_ M1 N1 => ∃ kn1 : Int, N ≤ N1 ∧ (∀ x : Nat, ¬ (x = c) → ¬ (x = c + 31) → ¬ (kb ≤ x) → ¬ (c + 1 ≤ x ∧ x < c + 1 + 15) → M1 x = M x) ∧ ((((0 ≤ a0 ∧ a0 < f 570) ∧ f (404 + a0) = 0) ∧ z_ = f 571 + 1 ∧ M1 c = some (xO c kn1 (chn ch)) ∧ stC G M1 (c + 1) (tbF f a0) ∧ kpC G M1 (c + 31) kb kn1 (chn ch) (fsn ch fs f)))) (fun E_ M1 N1 => ∃ kn1 : Int, N ≤ N1 ∧ (∀ x : Nat, ¬ (x = c) → ¬ (x = c + 31) → ¬ (kb ≤ x) → ¬ (c + 1 ≤ x ∧ x < c + 1 + 15) → M1 x = M x) ∧ (((¬ (0 ≤ a0 ∧ a0 < f 570)) ∧ E_ = "java/lang/IndexOutOfBoundsException" ∧ M1 c = some (xO c kn1 ch) ∧ stC G M1 (c + 1) f ∧ kpC G M1 (c + 31) kb kn1 ch fs) ∨ (((0 ≤ a0 ∧ a0 < f 570) ∧ f (404 + a0) ≠ 0) ∧ E_ = "java/lang/IllegalStateException" ∧ M1 c = some (xO c kn1 ch) ∧ stC G M1 (c + 1) f ∧ kpC G M1 (c + 31) kb kn1 ch fs))) := by
  refine xcE.ofI (cc := cX10_takeBack) (nL := 2) (ret := (some .int)) (by decide) rfl (Nat.le_of_ble_eq_true rfl) ?_
  intro p_ e_ s_ m_ args_ below_ meth_ c_ ls Q hQ E hF_ hxt_ hl
  have E : sE p_ l_ e_ rmX10_takeBack s_ m_ args_ below_ meth_ c_ cX10_takeBack 2 wsX10_takeBack RX10 "takeBack" (some .int) G b_ M N := E
  have S := E.1
  have hx_ := S.1
  have hb_ := S.2.1
  have hK := E.2.2.2.2.1
  have hV := E.2.2.2.2.2.2
  have hl : lv_has ls 2 [(0, .ref c), (1, .int (sI a0))] := hl
  have inX10_ : ∀ w ∈ wsX100, w ∈ wsX10_takeBack := fun _ h => List.mem_cons_of_mem _ (List.mem_append_left _ (List.mem_append_left _ (List.mem_append_left _ (List.mem_append_left _ (List.mem_append_right _ h)))))
  have inX6_ : ∀ w ∈ wsX60, w ∈ wsX10_takeBack := fun _ h => List.mem_cons_of_mem _ (List.mem_append_left _ (List.mem_append_left _ (List.mem_append_left _ (List.mem_append_right _ h))))
  have inX8_ : ∀ w ∈ wsX80, w ∈ wsX10_takeBack := fun _ h => List.mem_cons_of_mem _ (List.mem_append_left _ (List.mem_append_left _ (List.mem_append_right _ h)))
  have hbN : b_ ≤ N := by have h1 := hV.1.1; have h2 := hV.2.2; omega
  have kn0 := sOk_N hok
  refine lv_aload_n hx_ hb_ dX10_takeBack_0 rfl (lv_at hl 0 rfl) ?_
  refine sc_get (ci := 8) (C := RX10) (T := TX10) (n := 11) S hK hV inX10_ hc0 rfl 0 (by decide) (S.2.2.2.2 _ (List.mem_of_getElem? (i := 5) rfl)) rfl rfl dX10_takeBack_1 ?_
  refine sc_getN (ci := 4) (C := RX6) (T := TX6) (n := 8) S hK hV inX6_ (hst).1 rfl 4 (by decide) (E.2.2.2.2.2.1.1.2.1 _ (List.mem_of_getElem? (i := 10) rfl)) rfl rfl dX10_takeBack_4 ?_
  refine lv_iload_n hx_ hb_ dX10_takeBack_7 rfl (lv_at hl 1 rfl) ?_
  refine sk_VP E hV (As := [.int (sI a0)]) (rest := []) (kTh l_ G b_ M N (c + 10) 5 (f 570) 300 (tvT f) a0 ((hst).2.2.2.2.2.1) (by omega)) (cwV 1 S.2.2.2.2 gX10_takeBack_X8_has rfl rfl rfl (by decide +kernel) ⟨Nat.le_of_ble_eq_true rfl, Nat.le_of_ble_eq_true rfl⟩) (ci := 6) ((hst).2.2.2.2.2.1).1 rfl rfl rfl hl.1 (Nat.le_of_ble_eq_true rfl) dX10_takeBack_8 (c1 := 0) (s1 := 0) ⟨⟨rfl, rfl⟩, by decide, by decide⟩ (fun H locs hV => ?_)
  refine sq_ne (tgt := 25) S dX10_takeBack_11 (by decide) (fun c1 => ?_) (fun c1 => ?_)
  · refine lv_aload_n hx_ hb_ dX10_takeBack_25 rfl (lv_at hl 0 rfl) ?_
    refine sc_get (ci := 8) (C := RX10) (T := TX10) (n := 11) S hK hV inX10_ hc0 rfl 0 (by decide) (S.2.2.2.2 _ (List.mem_of_getElem? (i := 5) rfl)) rfl rfl dX10_takeBack_26 ?_
    refine sc_getN (ci := 4) (C := RX6) (T := TX6) (n := 8) S hK hV inX6_ (hst).1 rfl 4 (by decide) (E.2.2.2.2.2.1.1.2.1 _ (List.mem_of_getElem? (i := 10) rfl)) rfl rfl dX10_takeBack_29 ?_
    refine lv_iload_n hx_ hb_ dX10_takeBack_32 rfl (lv_at hl 1 rfl) ?_
    refine si_const S dX10_takeBack_33 ?_
    refine sk_VP E hV (As := [.int (sI a0), .int (sI 4)]) (rest := []) (kTg l_ G b_ M N (c + 10) 5 (f 570) 300 (tvT f) a0 4 (takn (f (404 + a0))) ((hst).2.2.2.2.2.1) (by omega) (by omega) (tvT_4 f a0)) (cwV 2 S.2.2.2.2 gX10_takeBack_X8_get rfl rfl rfl (by decide +kernel) ⟨Nat.le_of_ble_eq_true rfl, Nat.le_of_ble_eq_true rfl⟩) (ci := 6) ((hst).2.2.2.2.2.1).1 rfl rfl rfl hl.1 (Nat.le_of_ble_eq_true rfl) dX10_takeBack_34 (c1 := 0) (s1 := 0) ⟨⟨rfl, rfl⟩, by decide, by decide⟩ (fun H locs hV => ?_)
    have hT9 := sOk_T hok a0 (by omega) (by omega)
    have htk := takn_c (t := f (404 + a0)) (by omega)
    refine si_const S dX10_takeBack_37 ?_
    refine sb_eq (tgt := 52) S dX10_takeBack_38 (by decide) (by omega) (fun c2 => ?_) (fun c2 => ?_)
    · refine lv_aload_n hx_ hb_ dX10_takeBack_52 rfl (lv_at hl 0 rfl) ?_
      refine sk_Vv E hV (As := []) (rest := []) (kX10_keepState l_ G b_ M N c kn ch f kb fs hc0 hst hkp (by omega) (by omega) (by omega)) (cwV 0 S.2.2.2.2 gX10_takeBack_X10_keepState rfl rfl rfl (by decide +kernel) ⟨Nat.le_of_ble_eq_true rfl, Nat.le_of_ble_eq_true rfl⟩) (ci := 8) hc0 rfl rfl rfl hl.1 (Nat.le_of_ble_eq_true rfl) dX10_takeBack_53 (c1 := 15) (s1 := 2900) ⟨⟨rfl, rfl⟩, by decide, by decide⟩ (fun M3 N4 H locs hp5 hV => ?_)
      obtain ⟨kn17, hN8, hc9, hc10, hf11⟩ := hp5
      have hc12 : stC G M3 (c + 1) f := hst.fr (fun x q8 q9 => hf11 x (by omega) (by omega) (by omega))
      have hx13 : M3 (c + 1) = some (sObj 4 [.ref (c + 2), .ref (c + 4), .ref (c + 6), .ref (c + 8), .ref (c + 10), .ref (c + 12), .ref (c + 14), .int (sI (f 571))]) := (hc12).1
      have hx14 : stK G M3 (c + 2) 7 (f 568) 70 (tvS f) := (hc12).2.1
      have hx15 : stK G M3 (c + 4) 2 (f 569) 80 (tvC f) := (hc12).2.2.1
      have hx16 : stK G M3 (c + 6) 2 4 8 (tvD f) := (hc12).2.2.2.1
      have hx17 : stK G M3 (c + 8) 6 6 36 (tvP f) := (hc12).2.2.2.2.1
      have hx18 : stK G M3 (c + 10) 5 (f 570) 300 (tvT f) := (hc12).2.2.2.2.2.1
      have hx19 : stK G M3 (c + 12) 4 (f 572) 80 (tvW f) := (hc12).2.2.2.2.2.2.1
      have hx20 : stK G M3 (c + 14) 3 (f 573) 24 (tvO f) := (hc12).2.2.2.2.2.2.2
      refine lv_aload_n hx_ hb_ dX10_takeBack_56 rfl (lv_at hl 0 rfl) ?_
      refine sc_get (ci := 8) (C := RX10) (T := TX10) (n := 11) S hK hV inX10_ hc9 rfl 0 (by decide) (S.2.2.2.2 _ (List.mem_of_getElem? (i := 5) rfl)) rfl rfl dX10_takeBack_57 ?_
      refine lv_dup hx_ hb_ dX10_takeBack_60 rfl ?_
      refine sc_getN (ci := 4) (C := RX6) (T := TX6) (n := 8) S hK hV inX6_ hx13 rfl 7 (by decide) (E.2.2.2.2.2.1.1.2.1 _ (List.mem_of_getElem? (i := 14) rfl)) rfl rfl dX10_takeBack_61 ?_
      refine si_const S dX10_takeBack_64 ?_
      refine si_add S dX10_takeBack_65 ?_
      refine sc_putN (ci := 4) (C := RX6) (T := TX6) (n := 8) S hK hV inX6_ tyX6_ok nmX6 hx13 rfl 7 (by decide) (E.2.2.2.2.2.1.1.2.1 _ (List.mem_of_getElem? (i := 14) rfl)) rfl rfl rfl rfl (Nat.le_of_ble_eq_true rfl) dX10_takeBack_66 (fs1 := [.ref (c + 2), .ref (c + 4), .ref (c + 6), .ref (c + 8), .ref (c + 10), .ref (c + 12), .ref (c + 14), .int (sI ((f 571) + 1))]) rfl (fun M21 H locs hM21 hV => ?_)
      have hc22 : M21 (c + 1) = some (sObj 4 [.ref (c + 2), .ref (c + 4), .ref (c + 6), .ref (c + 8), .ref (c + 10), .ref (c + 12), .ref (c + 14), .int (sI ((f 571) + 1))]) := (congrFun hM21 (c + 1)).trans (va_up_self M3 (c + 1) _)
      refine lv_aload_n hx_ hb_ dX10_takeBack_69 rfl (lv_at hl 0 rfl) ?_
      have hc23 : M21 c = some (xO c kn17 (chn ch)) := ((congrFun hM21 c).trans (va_up_ne M3 _ (by omega))).trans hc9
      refine sc_get (ci := 8) (C := RX10) (T := TX10) (n := 11) S hK hV inX10_ hc23 rfl 0 (by decide) (S.2.2.2.2 _ (List.mem_of_getElem? (i := 5) rfl)) rfl rfl dX10_takeBack_70 ?_
      refine sc_getN (ci := 4) (C := RX6) (T := TX6) (n := 8) S hK hV inX6_ hc22 rfl 4 (by decide) (E.2.2.2.2.2.1.1.2.1 _ (List.mem_of_getElem? (i := 10) rfl)) rfl rfl dX10_takeBack_73 ?_
      refine lv_iload_n hx_ hb_ dX10_takeBack_76 rfl (lv_at hl 1 rfl) ?_
      refine si_const S dX10_takeBack_77 ?_
      refine lv_aload_n hx_ hb_ dX10_takeBack_78 rfl (lv_at hl 0 rfl) ?_
      refine sc_get (ci := 8) (C := RX10) (T := TX10) (n := 11) S hK hV inX10_ hc23 rfl 0 (by decide) (S.2.2.2.2 _ (List.mem_of_getElem? (i := 5) rfl)) rfl rfl dX10_takeBack_79 ?_
      refine sc_getN (ci := 4) (C := RX6) (T := TX6) (n := 8) S hK hV inX6_ hc22 rfl 7 (by decide) (E.2.2.2.2.2.1.1.2.1 _ (List.mem_of_getElem? (i := 14) rfl)) rfl rfl dX10_takeBack_82 ?_
      have hc24 : stK G M21 (c + 10) 5 (f 570) 300 (tvT f) := hx18.fr (fun x q8 q9 => (congrFun hM21 x).trans (va_up_ne M3 _ (by omega)))
      refine sk_Vv E hV (As := [.int (sI a0), .int (sI 4), .int (sI ((f 571) + 1))]) (rest := []) (kTw l_ G b_ M21 N4 (c + 10) 5 (f 570) 300 (tvT f) a0 4 ((f 571) + 1) hc24 (by omega) (by omega)) (cwV 3 S.2.2.2.2 gX10_takeBack_X8_set rfl rfl rfl (by decide +kernel) ⟨Nat.le_of_ble_eq_true rfl, Nat.le_of_ble_eq_true rfl⟩) (ci := 6) (hc24).1 rfl rfl rfl hl.1 (Nat.le_of_ble_eq_true rfl) dX10_takeBack_85 (c1 := 15) (s1 := 2900) ⟨⟨rfl, rfl⟩, by decide, by decide⟩ (fun M25 N26 H locs hp27 hV => ?_)
      obtain ⟨hN29, hc30, hf31⟩ := hp27
      rw [hN29] at hV
      refine lv_aload_n hx_ hb_ dX10_takeBack_88 rfl (lv_at hl 0 rfl) ?_
      have hc32 : M25 c = some (xO c kn17 (chn ch)) := (hf31 c (by omega)).trans hc23
      refine sc_get (ci := 8) (C := RX10) (T := TX10) (n := 11) S hK hV inX10_ hc32 rfl 0 (by decide) (S.2.2.2.2 _ (List.mem_of_getElem? (i := 5) rfl)) rfl rfl dX10_takeBack_89 ?_
      have hc33 : M25 (c + 1) = some (sObj 4 [.ref (c + 2), .ref (c + 4), .ref (c + 6), .ref (c + 8), .ref (c + 10), .ref (c + 12), .ref (c + 14), .int (sI ((f 571) + 1))]) := (hf31 (c + 1) (by omega)).trans hc22
      refine sc_getN (ci := 4) (C := RX6) (T := TX6) (n := 8) S hK hV inX6_ hc33 rfl 7 (by decide) (E.2.2.2.2.2.1.1.2.1 _ (List.mem_of_getElem? (i := 14) rfl)) rfl rfl dX10_takeBack_92 ?_
      have hc34 : stK G M25 (c + 2) 7 (f 568) 70 (tvS f) := hx14.fr (fun x q8 q9 => (hf31 x (by omega)).trans ((congrFun hM21 x).trans (va_up_ne M3 _ (by omega))))
      have hc35 : stK G M25 (c + 4) 2 (f 569) 80 (tvC f) := hx15.fr (fun x q8 q9 => (hf31 x (by omega)).trans ((congrFun hM21 x).trans (va_up_ne M3 _ (by omega))))
      have hc36 : stK G M25 (c + 6) 2 4 8 (tvD f) := hx16.fr (fun x q8 q9 => (hf31 x (by omega)).trans ((congrFun hM21 x).trans (va_up_ne M3 _ (by omega))))
      have hc37 : stK G M25 (c + 8) 6 6 36 (tvP f) := hx17.fr (fun x q8 q9 => (hf31 x (by omega)).trans ((congrFun hM21 x).trans (va_up_ne M3 _ (by omega))))
      have hc38 : stK G M25 (c + 12) 4 (f 572) 80 (tvW f) := hx19.fr (fun x q8 q9 => (hf31 x (by omega)).trans ((congrFun hM21 x).trans (va_up_ne M3 _ (by omega))))
      have hc39 : stK G M25 (c + 14) 3 (f 573) 24 (tvO f) := hx20.fr (fun x q8 q9 => (hf31 x (by omega)).trans ((congrFun hM21 x).trans (va_up_ne M3 _ (by omega))))
      have hc40 : kpC G M25 (c + 31) kb kn17 (chn ch) (fsn ch fs f) := hc10.fr (fun x q8 => (hf31 x (by omega)).trans ((congrFun hM21 x).trans (va_up_ne M3 _ (by omega))))
      exact xr_i E hQ dX10_takeBack_95 ⟨Nat.le_of_ble_eq_true rfl, Nat.le_of_ble_eq_true rfl⟩ hV (⟨_, by omega, fun x q0 q1 q2 q3 => ((hf31 x (by omega)).trans ((congrFun hM21 x).trans (va_up_ne M3 _ (by omega)))).trans (hf11 x (by omega) (by omega) (by omega)), ⟨(by omega), rfl, hc32, stC_u9 kn0 (by rw [show (tbF f a0) 571 = f 571 + 1 from by unfold tbF iup; (repeat (first | rw [if_pos (by omega)] | rw [if_neg (by omega)]))]; exact hc33) hc34 hc35 hc36 hc37 (by rw [show (tbF f a0) 570 = f 570 from by unfold tbF iup; (repeat (first | rw [if_pos (by omega)] | rw [if_neg (by omega)]))]; exact hc30.c (fun i j q1 q2 q3 q4 => tbF_t (by omega) (by omega) i j (by omega) (by omega))) hc38 hc39 (fun q w1 w2 w3 w4 w5 => by unfold tbF iup; (repeat (first | rw [if_pos (by omega)] | rw [if_neg (by omega)]))), hc40⟩⟩)
    · exact xt_W (own := RX10) (rest := []) E hF_ hxt_ hQ hlt (ik := 80) (is := 260) (ic := 84) (cls := "java/lang/IllegalStateException") (text := "it was taken back") (by decide +kernel) xg_IS (List.mem_of_getElem? (i := 3) rfl) (List.mem_of_getElem? (i := 4) rfl) (fun _ h => List.mem_cons_of_mem _ (List.mem_append_right _ h)) (List.mem_of_getElem? (i := 15) rfl) hl.1 dX10_takeBack_41 dX10_takeBack_44 dX10_takeBack_45 dX10_takeBack_48 dX10_takeBack_51 ⟨Nat.le_of_ble_eq_true rfl, Nat.le_of_ble_eq_true rfl, Nat.le_of_ble_eq_true rfl, Nat.le_of_ble_eq_true rfl⟩ ⟨Nat.le_of_ble_eq_true rfl, Nat.le_of_ble_eq_true rfl⟩ hV (fun N9 h9 => ⟨_, by omega, fun x q0 q1 q2 q3 => rfl, Or.inr (⟨(by first | omega | assumption), rfl, hc0, hst, hkp⟩)⟩)
  · exact xt_W (own := RX10) (rest := []) E hF_ hxt_ hQ hlt (ik := 173) (is := 258) (ic := 177) (cls := "java/lang/IndexOutOfBoundsException") (text := "nothing such was told") (by decide +kernel) xg_IO (List.mem_of_getElem? (i := 1) rfl) (List.mem_of_getElem? (i := 2) rfl) (fun _ h => List.mem_cons_of_mem _ (List.mem_append_left _ (List.mem_append_right _ h))) (List.mem_of_getElem? (i := 14) rfl) hl.1 dX10_takeBack_14 dX10_takeBack_17 dX10_takeBack_18 dX10_takeBack_21 dX10_takeBack_24 ⟨Nat.le_of_ble_eq_true rfl, Nat.le_of_ble_eq_true rfl, Nat.le_of_ble_eq_true rfl, Nat.le_of_ble_eq_true rfl⟩ ⟨Nat.le_of_ble_eq_true rfl, Nat.le_of_ble_eq_true rfl⟩ hV (fun N9 h9 => ⟨_, by omega, fun x q0 q1 q2 q3 => rfl, Or.inl ⟨(by first | omega | assumption), rfl, hc0, hst, hkp⟩⟩)

abbrev rmX10_setLight : Room := { frames := 7, cells := 25, slots := 3000, locals := 178 }
set_option maxHeartbeats 4000000 in
set_option maxRecDepth 100000 in
theorem kX10_setLight (l_ : Launch) (G : sG) (b_ : Nat) (M : sM) (N : Nat) (c : Nat) (kn ch : Int) (f : sF) (kb : Nat) (fs : Int → sF) (s l : Int) (hc0 : M c = some (xO c kn ch)) (hst : stC G M (c + 1) f) (hkp : kpC G M (c + 31) kb kn ch fs) (hlt : l_.stackTraces = false) (hok : sOk f) (hkb : c + 60 ≤ kb) (hkN : kb ≤ N) (hr : sR s ∧ sR l) : xcI l_ yX10_setLight wsX10_setLight rmX10_setLight G b_ M N [.ref c, .int (sI s), .int (sI l)] (fun z_ M1 N1 => ∃ kn1 : Int, N ≤ N1 ∧ (∀ x : Nat, ¬ (x = c) → ¬ (x = c + 31) → ¬ (kb ≤ x) → ¬ (c + 1 ≤ x ∧ x < c + 1 + 15) → M1 x = M x) ∧ ((((0 ≤ s ∧ s < f 568) ∧ (0 ≤ l ∧ l ≤ 100000) ∧ ∀ y, 1900 ≤ y → y < 2200 → liI f s y ≤ l) ∧ z_ = f (60 + s) ∧ M1 c = some (xO c kn1 (chn ch)) ∧ stC G M1 (c + 1) (slF f s l) ∧ kpC G M1 (c + 31) kb kn1 (chn ch) (fsn ch fs f)))) (fun E_ M1 N1 => ∃ kn1 : Int, N ≤ N1 ∧ (∀ x : Nat, ¬ (x = c) → ¬ (x = c + 31) → ¬ (kb ≤ x) → ¬ (c + 1 ≤ x ∧ x < c + 1 + 15) → M1 x = M x) ∧ (((¬ (0 ≤ s ∧ s < f 568)) ∧ E_ = "java/lang/IndexOutOfBoundsException" ∧ M1 c = some (xO c kn1 ch) ∧ stC G M1 (c + 1) f ∧ kpC G M1 (c + 31) kb kn1 ch fs) ∨ (((0 ≤ s ∧ s < f 568) ∧ ¬ (0 ≤ l ∧ l ≤ 100000)) ∧ E_ = "java/lang/IllegalArgumentException" ∧ M1 c = some (xO c kn1 ch) ∧ stC G M1 (c + 1) f ∧ kpC G M1 (c + 31) kb kn1 ch fs) ∨ (((0 ≤ s ∧ s < f 568) ∧ (0 ≤ l ∧ l ≤ 100000) ∧ ¬ ∀ y, 1900 ≤ y → y < 2200 → liI f s y ≤ l) ∧ E_ = "java/lang/IllegalStateException" ∧ M1 c = some (xO c kn1 ch) ∧ stC G M1 (c + 1) f ∧ kpC G M1 (c + 31) kb kn1 ch fs))) := by
  refine xcE.ofI (cc := cX10_setLight) (nL := 4) (ret := (some .int)) (by decide) rfl (Nat.le_of_ble_eq_true rfl) ?_
  intro p_ e_ s_ m_ args_ below_ meth_ c_ ls Q hQ E hF_ hxt_ hl
  have E : sE p_ l_ e_ rmX10_setLight s_ m_ args_ below_ meth_ c_ cX10_setLight 4 wsX10_setLight RX10 "setLight" (some .int) G b_ M N := E
  have S := E.1
  have hx_ := S.1
  have hb_ := S.2.1
  have hK := E.2.2.2.2.1
  have hV := E.2.2.2.2.2.2
  have hl : lv_has ls 4 [(0, .ref c), (1, .int (sI s)), (2, .int (sI l))] := hl
  have inX10_ : ∀ w ∈ wsX100, w ∈ wsX10_setLight := fun _ h => List.mem_cons_of_mem _ (List.mem_append_left _ (List.mem_append_left _ (List.mem_append_left _ (List.mem_append_left _ (List.mem_append_left _ (List.mem_append_right _ h))))))
  have inX6_ : ∀ w ∈ wsX60, w ∈ wsX10_setLight := fun _ h => List.mem_cons_of_mem _ (List.mem_append_left _ (List.mem_append_left _ (List.mem_append_left _ (List.mem_append_left _ (List.mem_append_right _ h)))))
  have inX8_ : ∀ w ∈ wsX80, w ∈ wsX10_setLight := fun _ h => List.mem_cons_of_mem _ (List.mem_append_left _ (List.mem_append_left _ (List.mem_append_left _ (List.mem_append_right _ h))))
  have hbN : b_ ≤ N := by have h1 := hV.1.1; have h2 := hV.2.2; omega
  have kn0 := sOk_N hok
  refine lv_aload_n hx_ hb_ dX10_setLight_0 rfl (lv_at hl 0 rfl) ?_
  refine lv_iload_n hx_ hb_ dX10_setLight_1 rfl (lv_at hl 1 rfl) ?_
  refine xk_Vv E hF_ hxt_ hQ hV (As := [.int (sI s)]) (rest := []) (kX10_needStone l_ G b_ M N c kn ch f s hc0 hst (by omega) (by omega) (by omega)) (cwV 1 S.2.2.2.2 gX10_setLight_X10_needStone rfl rfl rfl (by decide +kernel) ⟨Nat.le_of_ble_eq_true rfl, Nat.le_of_ble_eq_true rfl⟩) (ci := 8) hc0 rfl rfl rfl hl.1 (Nat.le_of_ble_eq_true rfl) dX10_setLight_2 (c1 := 1) (s1 := 6) ⟨⟨rfl, rfl⟩, by decide, by decide⟩ ⟨Nat.le_of_ble_eq_true rfl, Nat.le_of_ble_eq_true rfl⟩ ?_ (fun M1 N2 H locs hp3 hV => ?_)
  · rintro E9 M9 N9 ⟨hN5, hf6, hq7⟩
    rcases hq7 with ⟨c8, ee9⟩
    · have hc10 : M9 c = some (xO c kn ch) := (hf6 c ).trans hc0
      have hc11 : stC G M9 (c + 1) f := hst.fr (fun x q8 q9 => hf6 x )
      have hc12 : kpC G M9 (c + 31) kb kn ch fs := hkp.fr (fun x q8 => hf6 x )
      exact ⟨_, by omega, fun x q0 q1 q2 q3 => hf6 x , Or.inl ⟨(by first | exact c8 | omega), ee9, hc10, hc11, hc12⟩⟩
  obtain ⟨hN13, hf14, hq15⟩ := hp3
  rw [hN13] at hV
  rcases hq15 with c16
  · refine lv_iload_n hx_ hb_ dX10_setLight_5 rfl (lv_at hl 2 rfl) ?_
    refine si_const S dX10_setLight_6 ?_
    refine si_ldc_w S (100000) (S.2.2.2.2 _ (List.mem_of_getElem? (i := 3) rfl)) (by decide) dX10_setLight_7 ?_
    refine xk_Sv E hF_ hxt_ hQ hV (As := [.int (sI l), .int (sI 0), .int (sI 100000)]) (rest := []) (kX10_needRange l_ G b_ M1 N l 0 100000 (by omega) (by omega)) (va_cwS 3 S.2.2.2.2 gX10_setLight_X10_needRange rfl rfl rfl (by decide +kernel) ⟨Nat.le_of_ble_eq_true rfl, Nat.le_of_ble_eq_true rfl⟩) rfl rfl hl.1 (Nat.le_of_ble_eq_true rfl) dX10_setLight_10 (c1 := 2) (s1 := 12) ⟨⟨rfl, rfl⟩, by decide, by decide⟩ ⟨Nat.le_of_ble_eq_true rfl, Nat.le_of_ble_eq_true rfl⟩ ?_ (fun M17 N18 H locs hp19 hV => ?_)
    · rintro E9 M9 N9 ⟨hN21, hf22, hq23⟩
      rcases hq23 with ⟨c24, ee25⟩
      · have hc26 : M9 c = some (xO c kn ch) := ((hf22 c ).trans (hf14 c )).trans hc0
        have hc27 : stC G M9 (c + 1) f := hst.fr (fun x q8 q9 => (hf22 x ).trans (hf14 x ))
        have hc28 : kpC G M9 (c + 31) kb kn ch fs := hkp.fr (fun x q8 => (hf22 x ).trans (hf14 x ))
        exact ⟨_, by omega, fun x q0 q1 q2 q3 => (hf22 x ).trans (hf14 x ), Or.inr (Or.inl ⟨(by first | exact c24 | omega), ee25, hc26, hc27, hc28⟩)⟩
    obtain ⟨hN29, hf30, hq31⟩ := hp19
    rw [hN29] at hV
    rcases hq31 with c32
    · refine lv_aload_n hx_ hb_ dX10_setLight_13 rfl (lv_at hl 0 rfl) ?_
      have hc33 : M17 c = some (xO c kn ch) := ((hf30 c ).trans (hf14 c )).trans hc0
      refine sc_get (ci := 8) (C := RX10) (T := TX10) (n := 11) S hK hV inX10_ hc33 rfl 0 (by decide) (S.2.2.2.2 _ (List.mem_of_getElem? (i := 4) rfl)) rfl rfl dX10_setLight_14 ?_
      refine lv_iload_n hx_ hb_ dX10_setLight_17 rfl (lv_at hl 1 rfl) ?_
      refine lv_iload_n hx_ hb_ dX10_setLight_18 rfl (lv_at hl 2 rfl) ?_
      have hc34 : stC G M17 (c + 1) f := hst.fr (fun x q8 q9 => (hf30 x ).trans (hf14 x ))
      refine sk_SP E hV (As := [.ref (c + 1), .int (sI s), .int (sI l)]) (rest := []) (kX4_isOver l_ G b_ M17 N (c + 1) f s l hc34 (by omega) (by omega)) (va_cwS 3 S.2.2.2.2 gX10_setLight_X4_isOver rfl rfl rfl (by decide +kernel) ⟨Nat.le_of_ble_eq_true rfl, Nat.le_of_ble_eq_true rfl⟩) rfl rfl hl.1 (Nat.le_of_ble_eq_true rfl) dX10_setLight_19 (c1 := 2) (s1 := 12) ⟨⟨rfl, rfl⟩, by decide, by decide⟩ (fun H locs hV => ?_)
      refine sq_eq (tgt := 36) S dX10_setLight_22 (by decide) (fun ho9 => ?_) (fun ho9 => ?_)
      · refine lv_aload_n hx_ hb_ dX10_setLight_36 rfl (lv_at hl 0 rfl) ?_
        have hc35 : kpC G M17 (c + 31) kb kn ch fs := hkp.fr (fun x q8 => (hf30 x ).trans (hf14 x ))
        refine sk_Vv E hV (As := []) (rest := []) (kX10_keepState l_ G b_ M17 N c kn ch f kb fs hc33 hc34 hc35 (by omega) (by omega) (by omega)) (cwV 0 S.2.2.2.2 gX10_setLight_X10_keepState rfl rfl rfl (by decide +kernel) ⟨Nat.le_of_ble_eq_true rfl, Nat.le_of_ble_eq_true rfl⟩) (ci := 8) hc33 rfl rfl rfl hl.1 (Nat.le_of_ble_eq_true rfl) dX10_setLight_37 (c1 := 17) (s1 := 2912) ⟨⟨rfl, rfl⟩, by decide, by decide⟩ (fun M36 N37 H locs hp38 hV => ?_)
        obtain ⟨kn140, hN41, hc42, hc43, hf44⟩ := hp38
        refine lv_aload_n hx_ hb_ dX10_setLight_40 rfl (lv_at hl 0 rfl) ?_
        refine sc_get (ci := 8) (C := RX10) (T := TX10) (n := 11) S hK hV inX10_ hc42 rfl 0 (by decide) (S.2.2.2.2 _ (List.mem_of_getElem? (i := 4) rfl)) rfl rfl dX10_setLight_41 ?_
        have hc45 : stC G M36 (c + 1) f := hc34.fr (fun x q8 q9 => hf44 x (by omega) (by omega) (by omega))
        refine sc_getN (ci := 4) (C := RX6) (T := TX6) (n := 8) S hK hV inX6_ (hc45).1 rfl 0 (by decide) (E.2.2.2.2.2.1.1.2.1 _ (List.mem_of_getElem? (i := 3) rfl)) rfl rfl dX10_setLight_44 ?_
        refine lv_iload_n hx_ hb_ dX10_setLight_47 rfl (lv_at hl 1 rfl) ?_
        refine si_bipush S dX10_setLight_48 (by decide) ?_
        refine sk_VP E hV (As := [.int (sI s), .int (sI 6)]) (rest := []) (kTg l_ G b_ M36 N37 (c + 2) 7 (f 568) 70 (tvS f) s 6 (f (60 + s)) ((hc45).2.1) (by omega) (by omega) (tvS_6 f s)) (cwV 2 S.2.2.2.2 gX10_setLight_X8_get rfl rfl rfl (by decide +kernel) ⟨Nat.le_of_ble_eq_true rfl, Nat.le_of_ble_eq_true rfl⟩) (ci := 6) ((hc45).2.1).1 rfl rfl rfl hl.1 (Nat.le_of_ble_eq_true rfl) dX10_setLight_50 (c1 := 17) (s1 := 2912) ⟨⟨rfl, rfl⟩, by decide, by decide⟩ (fun H locs hV => ?_)
        have kn46 : 0 ≤ f (60 + s) ∧ f (60 + s) ≤ 100000 := (sOk_S hok s (by omega) (by omega)).2.2.2.2.2.2
        refine lv_istore_n (lv' := [(3, .int (sI (f (60 + s)))), (0, .ref c), (1, .int (sI s)), (2, .int (sI l))]) hx_ hb_ dX10_setLight_53 rfl hl (by decide) rfl (fun ls hl => ?_)
        refine lv_aload_n hx_ hb_ dX10_setLight_54 rfl (lv_at hl 1 rfl) ?_
        refine sc_get (ci := 8) (C := RX10) (T := TX10) (n := 11) S hK hV inX10_ hc42 rfl 0 (by decide) (S.2.2.2.2 _ (List.mem_of_getElem? (i := 4) rfl)) rfl rfl dX10_setLight_55 ?_
        refine sc_getN (ci := 4) (C := RX6) (T := TX6) (n := 8) S hK hV inX6_ (hc45).1 rfl 0 (by decide) (E.2.2.2.2.2.1.1.2.1 _ (List.mem_of_getElem? (i := 3) rfl)) rfl rfl dX10_setLight_58 ?_
        refine lv_iload_n hx_ hb_ dX10_setLight_61 rfl (lv_at hl 2 rfl) ?_
        refine si_bipush S dX10_setLight_62 (by decide) ?_
        refine lv_iload_n hx_ hb_ dX10_setLight_64 rfl (lv_at hl 3 rfl) ?_
        have hx47 : M36 (c + 1) = some (sObj 4 [.ref (c + 2), .ref (c + 4), .ref (c + 6), .ref (c + 8), .ref (c + 10), .ref (c + 12), .ref (c + 14), .int (sI (f 571))]) := (hc45).1
        have hx48 : stK G M36 (c + 2) 7 (f 568) 70 (tvS f) := (hc45).2.1
        have hx49 : stK G M36 (c + 4) 2 (f 569) 80 (tvC f) := (hc45).2.2.1
        have hx50 : stK G M36 (c + 6) 2 4 8 (tvD f) := (hc45).2.2.2.1
        have hx51 : stK G M36 (c + 8) 6 6 36 (tvP f) := (hc45).2.2.2.2.1
        have hx52 : stK G M36 (c + 10) 5 (f 570) 300 (tvT f) := (hc45).2.2.2.2.2.1
        have hx53 : stK G M36 (c + 12) 4 (f 572) 80 (tvW f) := (hc45).2.2.2.2.2.2.1
        have hx54 : stK G M36 (c + 14) 3 (f 573) 24 (tvO f) := (hc45).2.2.2.2.2.2.2
        refine sk_Vv E hV (As := [.int (sI s), .int (sI 6), .int (sI l)]) (rest := []) (kTw l_ G b_ M36 N37 (c + 2) 7 (f 568) 70 (tvS f) s 6 l hx48 (by omega) (by omega)) (cwV 3 S.2.2.2.2 gX10_setLight_X8_set rfl rfl rfl (by decide +kernel) ⟨Nat.le_of_ble_eq_true rfl, Nat.le_of_ble_eq_true rfl⟩) (ci := 6) (hx48).1 rfl rfl rfl hl.1 (Nat.le_of_ble_eq_true rfl) dX10_setLight_65 (c1 := 17) (s1 := 2912) ⟨⟨rfl, rfl⟩, by decide, by decide⟩ (fun M55 N56 H locs hp57 hV => ?_)
        obtain ⟨hN59, hc60, hf61⟩ := hp57
        rw [hN59] at hV
        refine lv_iload_n hx_ hb_ dX10_setLight_68 rfl (lv_at hl 0 rfl) ?_
        have hc62 : M55 (c + 1) = some (sObj 4 [.ref (c + 2), .ref (c + 4), .ref (c + 6), .ref (c + 8), .ref (c + 10), .ref (c + 12), .ref (c + 14), .int (sI (f 571))]) := (hf61 (c + 1) (by omega)).trans hx47
        have hc63 : stK G M55 (c + 4) 2 (f 569) 80 (tvC f) := hx49.fr (fun x q8 q9 => hf61 x (by omega))
        have hc64 : stK G M55 (c + 6) 2 4 8 (tvD f) := hx50.fr (fun x q8 q9 => hf61 x (by omega))
        have hc65 : stK G M55 (c + 8) 6 6 36 (tvP f) := hx51.fr (fun x q8 q9 => hf61 x (by omega))
        have hc66 : stK G M55 (c + 10) 5 (f 570) 300 (tvT f) := hx52.fr (fun x q8 q9 => hf61 x (by omega))
        have hc67 : stK G M55 (c + 12) 4 (f 572) 80 (tvW f) := hx53.fr (fun x q8 q9 => hf61 x (by omega))
        have hc68 : stK G M55 (c + 14) 3 (f 573) 24 (tvO f) := hx54.fr (fun x q8 q9 => hf61 x (by omega))
        have hc69 : M55 c = some (xO c kn140 (chn ch)) := (hf61 c (by omega)).trans hc42
        have hc70 : kpC G M55 (c + 31) kb kn140 (chn ch) (fsn ch fs f) := hc43.fr (fun x q8 => hf61 x (by omega))
        exact xr_i E hQ dX10_setLight_69 ⟨Nat.le_of_ble_eq_true rfl, Nat.le_of_ble_eq_true rfl⟩ hV (⟨_, by omega, fun x q0 q1 q2 q3 => (((hf61 x (by omega)).trans (hf44 x (by omega) (by omega) (by omega))).trans (hf30 x )).trans (hf14 x ), ⟨(⟨by omega, by omega, Classical.not_not.mp fun q => ho9 ((ov_i hok (by omega)).mpr q)⟩), rfl, hc69, stC_u0 kn0 hc62 (by rw [show (slF f s l) 568 = f 568 from by unfold slF iup; (repeat (first | rw [if_pos (by omega)] | rw [if_neg (by omega)]))]; exact hc60.c (fun i j q1 q2 q3 q4 => slF_t (by omega) i j (by omega) (by omega))) hc63 hc64 hc65 hc66 hc67 hc68 (fun q w1 w2 w3 w4 => by unfold slF iup; (repeat (first | rw [if_pos (by omega)] | rw [if_neg (by omega)]))), hc70⟩⟩)
      · have hc71 : kpC G M17 (c + 31) kb kn ch fs := hkp.fr (fun x q8 => (hf30 x ).trans (hf14 x ))
        exact xt_W (own := RX10) (rest := []) E hF_ hxt_ hQ hlt (ik := 80) (is := 301) (ic := 84) (cls := "java/lang/IllegalStateException") (text := "the stone has more light in a year") (by decide +kernel) xg_IS (List.mem_of_getElem? (i := 1) rfl) (List.mem_of_getElem? (i := 2) rfl) (fun _ h => List.mem_cons_of_mem _ (List.mem_append_left _ (List.mem_append_left _ (List.mem_append_right _ h)))) (List.mem_of_getElem? (i := 18) rfl) hl.1 dX10_setLight_25 dX10_setLight_28 dX10_setLight_29 dX10_setLight_32 dX10_setLight_35 ⟨Nat.le_of_ble_eq_true rfl, Nat.le_of_ble_eq_true rfl, Nat.le_of_ble_eq_true rfl, Nat.le_of_ble_eq_true rfl⟩ ⟨Nat.le_of_ble_eq_true rfl, Nat.le_of_ble_eq_true rfl⟩ hV (fun N9 h9 => ⟨_, by omega, fun x q0 q1 q2 q3 => (hf30 x ).trans (hf14 x ), Or.inr (Or.inr (⟨(⟨by omega, by omega, (ov_i hok (by omega)).mp ho9⟩), rfl, hc33, hc34, hc71⟩))⟩)

abbrev rmX10_show : Room := { frames := 7, cells := 25, slots := 3000, locals := 159 }
set_option maxHeartbeats 4000000 in
set_option maxRecDepth 100000 in
theorem kX10_show (l_ : Launch) (G : sG) (b_ : Nat) (M : sM) (N : Nat) (c : Nat) (kn ch : Int) (f : sF) (kb : Nat) (fs : Int → sF) (s d n l : Int) (hc0 : M c = some (xO c kn ch)) (hst : stC G M (c + 1) f) (hkp : kpC G M (c + 31) kb kn ch fs) (hlt : l_.stackTraces = false) (hok : sOk f) (hkb : c + 60 ≤ kb) (hkN : kb ≤ N) (hli : sLi f) (hr : sR s ∧ sR d ∧ sR n ∧ sR l) : xcI l_ yX10_show wsX10_show rmX10_show G b_ M N [.ref c, .int (sI s), .int (sI d), .int (sI n), .int (sI l)] (fun z_ M1 N1 => ∃ kn1 : Int, N ≤ N1 ∧ (∀ x : Nat, ¬ (x = c) → ¬ (x = c + 31) → ¬ (kb ≤ x) → ¬ (c + 1 ≤ x ∧ x < c + 1 + 15) → M1 x = M x) ∧ ((((0 ≤ s ∧ s < f 568) ∧ (isDt d ∧ (1 ≤ n ∧ n ≤ 400) ∧ (1 ≤ l ∧ l ≤ 1000) ∧ dayI d + n ≤ 109573) ∧ f 572 < 20 ∧ cbP f s (d / 10000) (dayI d + 3652) n l) ∧ z_ = f 572 ∧ M1 c = some (xO c kn1 (chn ch)) ∧ stC G M1 (c + 1) (shF f s (dayI d + 3652) n l) ∧ kpC G M1 (c + 31) kb kn1 (chn ch) (fsn ch fs f)))) (fun E_ M1 N1 => ∃ kn1 : Int, N ≤ N1 ∧ (∀ x : Nat, ¬ (x = c) → ¬ (x = c + 31) → ¬ (kb ≤ x) → ¬ (c + 1 ≤ x ∧ x < c + 1 + 15) → M1 x = M x) ∧ (((¬ (0 ≤ s ∧ s < f 568)) ∧ E_ = "java/lang/IndexOutOfBoundsException" ∧ M1 c = some (xO c kn1 ch) ∧ stC G M1 (c + 1) f ∧ kpC G M1 (c + 31) kb kn1 ch fs) ∨ (((0 ≤ s ∧ s < f 568) ∧ ¬ (isDt d ∧ (1 ≤ n ∧ n ≤ 400) ∧ (1 ≤ l ∧ l ≤ 1000) ∧ dayI d + n ≤ 109573)) ∧ E_ = "java/lang/IllegalArgumentException" ∧ M1 c = some (xO c kn1 ch) ∧ stC G M1 (c + 1) f ∧ kpC G M1 (c + 31) kb kn1 ch fs) ∨ (((0 ≤ s ∧ s < f 568) ∧ (isDt d ∧ (1 ≤ n ∧ n ≤ 400) ∧ (1 ≤ l ∧ l ≤ 1000) ∧ dayI d + n ≤ 109573) ∧ ¬ (f 572 < 20 ∧ cbP f s (d / 10000) (dayI d + 3652) n l)) ∧ E_ = "java/lang/IllegalStateException" ∧ M1 c = some (xO c kn1 ch) ∧ stC G M1 (c + 1) f ∧ kpC G M1 (c + 31) kb kn1 ch fs))) := by
  refine xcE.ofI (cc := cX10_show) (nL := 6) (ret := (some .int)) (by decide) rfl (Nat.le_of_ble_eq_true rfl) ?_
  intro p_ e_ s_ m_ args_ below_ meth_ c_ ls Q hQ E hF_ hxt_ hl
  have E : sE p_ l_ e_ rmX10_show s_ m_ args_ below_ meth_ c_ cX10_show 6 wsX10_show RX10 "show" (some .int) G b_ M N := E
  have S := E.1
  have hx_ := S.1
  have hb_ := S.2.1
  have hK := E.2.2.2.2.1
  have hV := E.2.2.2.2.2.2
  have hl : lv_has ls 6 [(0, .ref c), (1, .int (sI s)), (2, .int (sI d)), (3, .int (sI n)), (4, .int (sI l))] := hl
  have inX10_ : ∀ w ∈ wsX100, w ∈ wsX10_show := fun _ h => List.mem_cons_of_mem _ (List.mem_append_left _ (List.mem_append_left _ (List.mem_append_left _ (List.mem_append_left _ (List.mem_append_left _ (List.mem_append_right _ h))))))
  have inX6_ : ∀ w ∈ wsX60, w ∈ wsX10_show := fun _ h => List.mem_cons_of_mem _ (List.mem_append_left _ (List.mem_append_left _ (List.mem_append_left _ (List.mem_append_left _ (List.mem_append_right _ h)))))
  have inX8_ : ∀ w ∈ wsX80, w ∈ wsX10_show := fun _ h => List.mem_cons_of_mem _ (List.mem_append_left _ (List.mem_append_left _ (List.mem_append_left _ (List.mem_append_right _ h))))
  have hbN : b_ ≤ N := by have h1 := hV.1.1; have h2 := hV.2.2; omega
  have kn0 := sOk_N hok
  have hny := nyr_2200
  refine lv_aload_n hx_ hb_ dX10_show_0 rfl (lv_at hl 0 rfl) ?_
  refine lv_iload_n hx_ hb_ dX10_show_1 rfl (lv_at hl 1 rfl) ?_
  refine xk_Vv E hF_ hxt_ hQ hV (As := [.int (sI s)]) (rest := []) (kX10_needStone l_ G b_ M N c kn ch f s hc0 hst (by omega) (by omega) (by omega)) (cwV 1 S.2.2.2.2 gX10_show_X10_needStone rfl rfl rfl (by decide +kernel) ⟨Nat.le_of_ble_eq_true rfl, Nat.le_of_ble_eq_true rfl⟩) (ci := 8) hc0 rfl rfl rfl hl.1 (Nat.le_of_ble_eq_true rfl) dX10_show_2 (c1 := 1) (s1 := 6) ⟨⟨rfl, rfl⟩, by decide, by decide⟩ ⟨Nat.le_of_ble_eq_true rfl, Nat.le_of_ble_eq_true rfl⟩ ?_ (fun M1 N2 H locs hp3 hV => ?_)
  · rintro E9 M9 N9 ⟨hN5, hf6, hq7⟩
    rcases hq7 with ⟨c8, ee9⟩
    · have hc10 : M9 c = some (xO c kn ch) := (hf6 c ).trans hc0
      have hc11 : stC G M9 (c + 1) f := hst.fr (fun x q8 q9 => hf6 x )
      have hc12 : kpC G M9 (c + 31) kb kn ch fs := hkp.fr (fun x q8 => hf6 x )
      exact ⟨_, by omega, fun x q0 q1 q2 q3 => hf6 x , Or.inl ⟨(by first | exact c8 | omega), ee9, hc10, hc11, hc12⟩⟩
  obtain ⟨hN13, hf14, hq15⟩ := hp3
  rw [hN13] at hV
  rcases hq15 with c16
  · refine lv_iload_n hx_ hb_ dX10_show_5 rfl (lv_at hl 2 rfl) ?_
    refine xk_Sv E hF_ hxt_ hQ hV (As := [.int (sI d)]) (rest := []) (kX10_needDate l_ G b_ M1 N d (by omega) (by omega)) (va_cwS 1 S.2.2.2.2 gX10_show_X10_needDate rfl rfl rfl (by decide +kernel) ⟨Nat.le_of_ble_eq_true rfl, Nat.le_of_ble_eq_true rfl⟩) rfl rfl hl.1 (Nat.le_of_ble_eq_true rfl) dX10_show_6 (c1 := 2) (s1 := 12) ⟨⟨rfl, rfl⟩, by decide, by decide⟩ ⟨Nat.le_of_ble_eq_true rfl, Nat.le_of_ble_eq_true rfl⟩ ?_ (fun M17 N18 H locs hp19 hV => ?_)
    · rintro E9 M9 N9 ⟨hN21, hf22, hq23⟩
      rcases hq23 with ⟨c24, ee25⟩
      · have hc26 : M9 c = some (xO c kn ch) := ((hf22 c ).trans (hf14 c )).trans hc0
        have hc27 : stC G M9 (c + 1) f := hst.fr (fun x q8 q9 => (hf22 x ).trans (hf14 x ))
        have hc28 : kpC G M9 (c + 31) kb kn ch fs := hkp.fr (fun x q8 => (hf22 x ).trans (hf14 x ))
        exact ⟨_, by omega, fun x q0 q1 q2 q3 => (hf22 x ).trans (hf14 x ), Or.inr (Or.inl ⟨(⟨by omega, fun h => c24 h.1⟩), ee25, hc26, hc27, hc28⟩)⟩
    obtain ⟨hN29, hf30, hq31⟩ := hp19
    rw [hN29] at hV
    rcases hq31 with c32
    · refine lv_iload_n hx_ hb_ dX10_show_9 rfl (lv_at hl 3 rfl) ?_
      refine si_const S dX10_show_10 ?_
      refine si_sipush S dX10_show_11 (by decide) ?_
      refine xk_Sv E hF_ hxt_ hQ hV (As := [.int (sI n), .int (sI 1), .int (sI 400)]) (rest := []) (kX10_needRange l_ G b_ M17 N n 1 400 (by omega) (by omega)) (va_cwS 3 S.2.2.2.2 gX10_show_X10_needRange rfl rfl rfl (by decide +kernel) ⟨Nat.le_of_ble_eq_true rfl, Nat.le_of_ble_eq_true rfl⟩) rfl rfl hl.1 (Nat.le_of_ble_eq_true rfl) dX10_show_14 (c1 := 3) (s1 := 18) ⟨⟨rfl, rfl⟩, by decide, by decide⟩ ⟨Nat.le_of_ble_eq_true rfl, Nat.le_of_ble_eq_true rfl⟩ ?_ (fun M33 N34 H locs hp35 hV => ?_)
      · rintro E9 M9 N9 ⟨hN37, hf38, hq39⟩
        rcases hq39 with ⟨c40, ee41⟩
        · have hc42 : M9 c = some (xO c kn ch) := (((hf38 c ).trans (hf30 c )).trans (hf14 c )).trans hc0
          have hc43 : stC G M9 (c + 1) f := hst.fr (fun x q8 q9 => ((hf38 x ).trans (hf30 x )).trans (hf14 x ))
          have hc44 : kpC G M9 (c + 31) kb kn ch fs := hkp.fr (fun x q8 => ((hf38 x ).trans (hf30 x )).trans (hf14 x ))
          exact ⟨_, by omega, fun x q0 q1 q2 q3 => ((hf38 x ).trans (hf30 x )).trans (hf14 x ), Or.inr (Or.inl ⟨(⟨by omega, fun h => c40 h.2.1⟩), ee41, hc42, hc43, hc44⟩)⟩
      obtain ⟨hN45, hf46, hq47⟩ := hp35
      rw [hN45] at hV
      rcases hq47 with c48
      · refine lv_iload hx_ hb_ dX10_show_17 (lv_at hl 4 rfl) ?_
        refine si_const S dX10_show_19 ?_
        refine si_sipush S dX10_show_20 (by decide) ?_
        refine xk_Sv E hF_ hxt_ hQ hV (As := [.int (sI l), .int (sI 1), .int (sI 1000)]) (rest := []) (kX10_needRange l_ G b_ M33 N l 1 1000 (by omega) (by omega)) (va_cwS 3 S.2.2.2.2 gX10_show_X10_needRange rfl rfl rfl (by decide +kernel) ⟨Nat.le_of_ble_eq_true rfl, Nat.le_of_ble_eq_true rfl⟩) rfl rfl hl.1 (Nat.le_of_ble_eq_true rfl) dX10_show_23 (c1 := 4) (s1 := 24) ⟨⟨rfl, rfl⟩, by decide, by decide⟩ ⟨Nat.le_of_ble_eq_true rfl, Nat.le_of_ble_eq_true rfl⟩ ?_ (fun M49 N50 H locs hp51 hV => ?_)
        · rintro E9 M9 N9 ⟨hN53, hf54, hq55⟩
          rcases hq55 with ⟨c56, ee57⟩
          · have hc58 : M9 c = some (xO c kn ch) := ((((hf54 c ).trans (hf46 c )).trans (hf30 c )).trans (hf14 c )).trans hc0
            have hc59 : stC G M9 (c + 1) f := hst.fr (fun x q8 q9 => (((hf54 x ).trans (hf46 x )).trans (hf30 x )).trans (hf14 x ))
            have hc60 : kpC G M9 (c + 31) kb kn ch fs := hkp.fr (fun x q8 => (((hf54 x ).trans (hf46 x )).trans (hf30 x )).trans (hf14 x ))
            exact ⟨_, by omega, fun x q0 q1 q2 q3 => (((hf54 x ).trans (hf46 x )).trans (hf30 x )).trans (hf14 x ), Or.inr (Or.inl ⟨(⟨by omega, fun h => c56 h.2.2.1⟩), ee57, hc58, hc59, hc60⟩)⟩
        obtain ⟨hN61, hf62, hq63⟩ := hp51
        rw [hN61] at hV
        rcases hq63 with c64
        · refine lv_iload_n hx_ hb_ dX10_show_26 rfl (lv_at hl 3 rfl) ?_
          refine si_const S dX10_show_27 ?_
          refine lv_iload_n hx_ hb_ dX10_show_28 rfl (lv_at hl 2 rfl) ?_
          have hdy := dt_y (show isDt d by assumption)
          have hnb := nyr_b (y := d / 10000) (by omega)
          have hnb2 := nyr_b (y := d / 10000 + 1) (by omega)
          refine sk_SP E hV (As := [.int (sI d)]) (rest := [.int (sI 1), .int (sI n)]) (kX0_daysLeft l_ G b_ M49 N d (by omega)) (va_cwS 1 S.2.2.2.2 gX10_show_X0_daysLeft rfl rfl rfl (by decide +kernel) ⟨Nat.le_of_ble_eq_true rfl, Nat.le_of_ble_eq_true rfl⟩) rfl rfl hl.1 (Nat.le_of_ble_eq_true rfl) dX10_show_29 (c1 := 4) (s1 := 24) ⟨⟨rfl, rfl⟩, by decide, by decide⟩ (fun H locs hV => ?_)
          refine xk_Sv E hF_ hxt_ hQ hV (As := [.int (sI n), .int (sI 1), .int (sI (nyr 2200 - dayI d))]) (rest := []) (kX10_needRange l_ G b_ M49 N n 1 (nyr 2200 - dayI d) (by omega) (by omega)) (va_cwS 3 S.2.2.2.2 gX10_show_X10_needRange rfl rfl rfl (by decide +kernel) ⟨Nat.le_of_ble_eq_true rfl, Nat.le_of_ble_eq_true rfl⟩) rfl rfl hl.1 (Nat.le_of_ble_eq_true rfl) dX10_show_32 (c1 := 5) (s1 := 30) ⟨⟨rfl, rfl⟩, by decide, by decide⟩ ⟨Nat.le_of_ble_eq_true rfl, Nat.le_of_ble_eq_true rfl⟩ ?_ (fun M65 N66 H locs hp67 hV => ?_)
          · rintro E9 M9 N9 ⟨hN69, hf70, hq71⟩
            rcases hq71 with ⟨c72, ee73⟩
            · have hc74 : M9 c = some (xO c kn ch) := (((((hf70 c ).trans (hf62 c )).trans (hf46 c )).trans (hf30 c )).trans (hf14 c )).trans hc0
              have hc75 : stC G M9 (c + 1) f := hst.fr (fun x q8 q9 => ((((hf70 x ).trans (hf62 x )).trans (hf46 x )).trans (hf30 x )).trans (hf14 x ))
              have hc76 : kpC G M9 (c + 31) kb kn ch fs := hkp.fr (fun x q8 => ((((hf70 x ).trans (hf62 x )).trans (hf46 x )).trans (hf30 x )).trans (hf14 x ))
              exact ⟨_, by omega, fun x q0 q1 q2 q3 => ((((hf70 x ).trans (hf62 x )).trans (hf46 x )).trans (hf30 x )).trans (hf14 x ), Or.inr (Or.inl ⟨(⟨by omega, fun h => c72 ⟨h.2.1.1, by have := h.2.2.2; omega⟩⟩), ee73, hc74, hc75, hc76⟩)⟩
          obtain ⟨hN77, hf78, hq79⟩ := hp67
          rw [hN77] at hV
          rcases hq79 with c80
          · refine lv_aload_n hx_ hb_ dX10_show_35 rfl (lv_at hl 0 rfl) ?_
            have hc81 : M65 c = some (xO c kn ch) := (((((hf78 c ).trans (hf62 c )).trans (hf46 c )).trans (hf30 c )).trans (hf14 c )).trans hc0
            refine sc_get (ci := 8) (C := RX10) (T := TX10) (n := 11) S hK hV inX10_ hc81 rfl 0 (by decide) (S.2.2.2.2 _ (List.mem_of_getElem? (i := 3) rfl)) rfl rfl dX10_show_36 ?_
            have hc82 : stC G M65 (c + 1) f := hst.fr (fun x q8 q9 => ((((hf78 x ).trans (hf62 x )).trans (hf46 x )).trans (hf30 x )).trans (hf14 x ))
            refine sc_getN (ci := 4) (C := RX6) (T := TX6) (n := 8) S hK hV inX6_ (hc82).1 rfl 5 (by decide) (E.2.2.2.2.2.1.1.2.1 _ (List.mem_of_getElem? (i := 12) rfl)) rfl rfl dX10_show_39 ?_
            refine sk_VP E hV (As := []) (rest := []) (kTf l_ G b_ M65 N (c + 12) 4 (f 572) 80 (tvW f) (20 ≤ f 572) ((hc82).2.2.2.2.2.2.1) (by omega) (by omega)) (cwV 0 S.2.2.2.2 gX10_show_X8_isFull rfl rfl rfl (by decide +kernel) ⟨Nat.le_of_ble_eq_true rfl, Nat.le_of_ble_eq_true rfl⟩) (ci := 6) ((hc82).2.2.2.2.2.2.1).1 rfl rfl rfl hl.1 (Nat.le_of_ble_eq_true rfl) dX10_show_42 (c1 := 5) (s1 := 30) ⟨⟨rfl, rfl⟩, by decide, by decide⟩ (fun H locs hV => ?_)
            refine sq_ne (tgt := 63) S dX10_show_45 (by decide) (fun c83 => ?_) (fun c83 => ?_)
            · have hc84 : kpC G M65 (c + 31) kb kn ch fs := hkp.fr (fun x q8 => ((((hf78 x ).trans (hf62 x )).trans (hf46 x )).trans (hf30 x )).trans (hf14 x ))
              exact xt_W (own := RX10) (rest := []) E hF_ hxt_ hQ hlt (ik := 80) (is := 313) (ic := 84) (cls := "java/lang/IllegalStateException") (text := "20 shows are told, or it is too much light") (by decide +kernel) xg_IS (List.mem_of_getElem? (i := 1) rfl) (List.mem_of_getElem? (i := 2) rfl) (fun _ h => List.mem_cons_of_mem _ (List.mem_append_left _ (List.mem_append_left _ (List.mem_append_right _ h)))) (List.mem_of_getElem? (i := 19) rfl) hl.1 dX10_show_63 dX10_show_66 dX10_show_67 dX10_show_70 dX10_show_73 ⟨Nat.le_of_ble_eq_true rfl, Nat.le_of_ble_eq_true rfl, Nat.le_of_ble_eq_true rfl, Nat.le_of_ble_eq_true rfl⟩ ⟨Nat.le_of_ble_eq_true rfl, Nat.le_of_ble_eq_true rfl⟩ hV (fun N9 h9 => ⟨_, by omega, fun x q0 q1 q2 q3 => ((((hf78 x ).trans (hf62 x )).trans (hf46 x )).trans (hf30 x )).trans (hf14 x ), Or.inr (Or.inr (⟨(by first | exact ⟨by omega, ⟨by assumption, by omega, by omega, by omega⟩, fun h => absurd h.1 (by omega)⟩ | exact ⟨by omega, ⟨by assumption, by omega, by omega, by omega⟩, fun h => absurd ((cb_md (by omega) (by omega)).mp h.2) (by omega)⟩), rfl, hc81, hc82, hc84⟩))⟩)
            · refine lv_iload_n hx_ hb_ dX10_show_48 rfl (lv_at hl 3 rfl) ?_
              refine lv_aload_n hx_ hb_ dX10_show_49 rfl (lv_at hl 0 rfl) ?_
              refine sc_get (ci := 8) (C := RX10) (T := TX10) (n := 11) S hK hV inX10_ hc81 rfl 0 (by decide) (S.2.2.2.2 _ (List.mem_of_getElem? (i := 3) rfl)) rfl rfl dX10_show_50 ?_
              refine lv_iload_n hx_ hb_ dX10_show_53 rfl (lv_at hl 1 rfl) ?_
              refine lv_iload_n hx_ hb_ dX10_show_54 rfl (lv_at hl 2 rfl) ?_
              refine lv_iload hx_ hb_ dX10_show_55 (lv_at hl 4 rfl) ?_
              refine sk_SP E hV (As := [.ref (c + 1), .int (sI s), .int (sI d), .int (sI l)]) (rest := [.int (sI n)]) (kX4_daysPossible l_ G b_ M65 N (c + 1) f s d l hc82 (by omega) (by omega) (by omega) (by assumption) (by omega)) (va_cwS 4 S.2.2.2.2 gX10_show_X4_daysPossible rfl rfl rfl (by decide +kernel) ⟨Nat.le_of_ble_eq_true rfl, Nat.le_of_ble_eq_true rfl⟩) rfl rfl hl.1 (Nat.le_of_ble_eq_true rfl) dX10_show_57 (c1 := 5) (s1 := 30) ⟨⟨rfl, rfl⟩, by decide, by decide⟩ (fun H locs hV => ?_)
              have hmr := md_r f s (d / 10000) (dayI d + 3652) l
              refine sb_le (tgt := 74) S dX10_show_60 (by decide) (by omega) (fun c85 => ?_) (fun c85 => ?_)
              · refine lv_aload_n hx_ hb_ dX10_show_74 rfl (lv_at hl 0 rfl) ?_
                have hc86 : kpC G M65 (c + 31) kb kn ch fs := hkp.fr (fun x q8 => ((((hf78 x ).trans (hf62 x )).trans (hf46 x )).trans (hf30 x )).trans (hf14 x ))
                refine sk_Vv E hV (As := []) (rest := []) (kX10_keepState l_ G b_ M65 N c kn ch f kb fs hc81 hc82 hc86 (by omega) (by omega) (by omega)) (cwV 0 S.2.2.2.2 gX10_show_X10_keepState rfl rfl rfl (by decide +kernel) ⟨Nat.le_of_ble_eq_true rfl, Nat.le_of_ble_eq_true rfl⟩) (ci := 8) hc81 rfl rfl rfl hl.1 (Nat.le_of_ble_eq_true rfl) dX10_show_75 (c1 := 20) (s1 := 2930) ⟨⟨rfl, rfl⟩, by decide, by decide⟩ (fun M87 N88 H locs hp89 hV => ?_)
                obtain ⟨kn191, hN92, hc93, hc94, hf95⟩ := hp89
                refine lv_aload_n hx_ hb_ dX10_show_78 rfl (lv_at hl 0 rfl) ?_
                refine sc_get (ci := 8) (C := RX10) (T := TX10) (n := 11) S hK hV inX10_ hc93 rfl 0 (by decide) (S.2.2.2.2 _ (List.mem_of_getElem? (i := 3) rfl)) rfl rfl dX10_show_79 ?_
                have hc96 : stC G M87 (c + 1) f := hc82.fr (fun x q8 q9 => hf95 x (by omega) (by omega) (by omega))
                refine sc_getN (ci := 4) (C := RX6) (T := TX6) (n := 8) S hK hV inX6_ (hc96).1 rfl 5 (by decide) (E.2.2.2.2.2.1.1.2.1 _ (List.mem_of_getElem? (i := 12) rfl)) rfl rfl dX10_show_82 ?_
                have hx97 : M87 (c + 1) = some (sObj 4 [.ref (c + 2), .ref (c + 4), .ref (c + 6), .ref (c + 8), .ref (c + 10), .ref (c + 12), .ref (c + 14), .int (sI (f 571))]) := (hc96).1
                have hx98 : stK G M87 (c + 2) 7 (f 568) 70 (tvS f) := (hc96).2.1
                have hx99 : stK G M87 (c + 4) 2 (f 569) 80 (tvC f) := (hc96).2.2.1
                have hx100 : stK G M87 (c + 6) 2 4 8 (tvD f) := (hc96).2.2.2.1
                have hx101 : stK G M87 (c + 8) 6 6 36 (tvP f) := (hc96).2.2.2.2.1
                have hx102 : stK G M87 (c + 10) 5 (f 570) 300 (tvT f) := (hc96).2.2.2.2.2.1
                have hx103 : stK G M87 (c + 12) 4 (f 572) 80 (tvW f) := (hc96).2.2.2.2.2.2.1
                have hx104 : stK G M87 (c + 14) 3 (f 573) 24 (tvO f) := (hc96).2.2.2.2.2.2.2
                refine sk_Vi E hV (As := []) (rest := []) (kTa l_ G b_ M87 N88 (c + 12) 4 (f 572) 80 (tvW f) hx103 (by omega)) (cwV 0 S.2.2.2.2 gX10_show_X8_add rfl rfl rfl (by decide +kernel) ⟨Nat.le_of_ble_eq_true rfl, Nat.le_of_ble_eq_true rfl⟩) (ci := 6) (hx103).1 rfl rfl rfl hl.1 (Nat.le_of_ble_eq_true rfl) dX10_show_85 (c1 := 20) (s1 := 2930) ⟨⟨rfl, rfl⟩, by decide, by decide⟩ (fun z108 M105 N106 H locs hp107 hV => ?_)
                obtain ⟨ez109, hN110, hc111, hf112⟩ := hp107
                rw [hN110] at hV
                rw [ez109]
                refine lv_istore (lv' := [(5, .int (sI (f 572))), (0, .ref c), (1, .int (sI s)), (2, .int (sI d)), (3, .int (sI n)), (4, .int (sI l))]) hx_ hb_ dX10_show_88 hl (by decide) rfl (fun ls hl => ?_)
                refine lv_aload_n hx_ hb_ dX10_show_90 rfl (lv_at hl 1 rfl) ?_
                have hc113 : M105 c = some (xO c kn191 (chn ch)) := (hf112 c (by omega) (by omega)).trans hc93
                refine sc_get (ci := 8) (C := RX10) (T := TX10) (n := 11) S hK hV inX10_ hc113 rfl 0 (by decide) (S.2.2.2.2 _ (List.mem_of_getElem? (i := 3) rfl)) rfl rfl dX10_show_91 ?_
                have hc114 : M105 (c + 1) = some (sObj 4 [.ref (c + 2), .ref (c + 4), .ref (c + 6), .ref (c + 8), .ref (c + 10), .ref (c + 12), .ref (c + 14), .int (sI (f 571))]) := (hf112 (c + 1) (by omega) (by omega)).trans hx97
                refine sc_getN (ci := 4) (C := RX6) (T := TX6) (n := 8) S hK hV inX6_ hc114 rfl 5 (by decide) (E.2.2.2.2.2.1.1.2.1 _ (List.mem_of_getElem? (i := 12) rfl)) rfl rfl dX10_show_94 ?_
                refine lv_iload hx_ hb_ dX10_show_97 (lv_at hl 0 rfl) ?_
                refine si_const S dX10_show_99 ?_
                refine lv_iload_n hx_ hb_ dX10_show_100 rfl (lv_at hl 2 rfl) ?_
                refine sk_Vv E hV (As := [.int (sI (f 572)), .int (sI 0), .int (sI s)]) (rest := []) (kTw l_ G b_ M105 N88 (c + 12) 4 ((f 572) + 1) 80 (tvZ (tvW f) (f 572)) (f 572) 0 s hc111 (by omega) (by omega)) (cwV 3 S.2.2.2.2 gX10_show_X8_set rfl rfl rfl (by decide +kernel) ⟨Nat.le_of_ble_eq_true rfl, Nat.le_of_ble_eq_true rfl⟩) (ci := 6) (hc111).1 rfl rfl rfl hl.1 (Nat.le_of_ble_eq_true rfl) dX10_show_101 (c1 := 20) (s1 := 2930) ⟨⟨rfl, rfl⟩, by decide, by decide⟩ (fun M115 N116 H locs hp117 hV => ?_)
                obtain ⟨hN119, hc120, hf121⟩ := hp117
                rw [hN119] at hV
                refine lv_aload_n hx_ hb_ dX10_show_104 rfl (lv_at hl 1 rfl) ?_
                have hc122 : M115 c = some (xO c kn191 (chn ch)) := (hf121 c (by omega)).trans hc113
                refine sc_get (ci := 8) (C := RX10) (T := TX10) (n := 11) S hK hV inX10_ hc122 rfl 0 (by decide) (S.2.2.2.2 _ (List.mem_of_getElem? (i := 3) rfl)) rfl rfl dX10_show_105 ?_
                have hc123 : M115 (c + 1) = some (sObj 4 [.ref (c + 2), .ref (c + 4), .ref (c + 6), .ref (c + 8), .ref (c + 10), .ref (c + 12), .ref (c + 14), .int (sI (f 571))]) := (hf121 (c + 1) (by omega)).trans hc114
                refine sc_getN (ci := 4) (C := RX6) (T := TX6) (n := 8) S hK hV inX6_ hc123 rfl 5 (by decide) (E.2.2.2.2.2.1.1.2.1 _ (List.mem_of_getElem? (i := 12) rfl)) rfl rfl dX10_show_108 ?_
                refine lv_iload hx_ hb_ dX10_show_111 (lv_at hl 0 rfl) ?_
                refine si_const S dX10_show_113 ?_
                refine lv_iload_n hx_ hb_ dX10_show_114 rfl (lv_at hl 3 rfl) ?_
                refine sk_Vv E hV (As := [.int (sI (f 572)), .int (sI 1), .int (sI d)]) (rest := []) (kTw l_ G b_ M115 N88 (c + 12) 4 ((f 572) + 1) 80 (tvU (tvZ (tvW f) (f 572)) (f 572) 0 s) (f 572) 1 d hc120 (by omega) (by omega)) (cwV 3 S.2.2.2.2 gX10_show_X8_set rfl rfl rfl (by decide +kernel) ⟨Nat.le_of_ble_eq_true rfl, Nat.le_of_ble_eq_true rfl⟩) (ci := 6) (hc120).1 rfl rfl rfl hl.1 (Nat.le_of_ble_eq_true rfl) dX10_show_115 (c1 := 20) (s1 := 2930) ⟨⟨rfl, rfl⟩, by decide, by decide⟩ (fun M124 N125 H locs hp126 hV => ?_)
                obtain ⟨hN128, hc129, hf130⟩ := hp126
                rw [hN128] at hV
                refine lv_aload_n hx_ hb_ dX10_show_118 rfl (lv_at hl 1 rfl) ?_
                have hc131 : M124 c = some (xO c kn191 (chn ch)) := (hf130 c (by omega)).trans hc122
                refine sc_get (ci := 8) (C := RX10) (T := TX10) (n := 11) S hK hV inX10_ hc131 rfl 0 (by decide) (S.2.2.2.2 _ (List.mem_of_getElem? (i := 3) rfl)) rfl rfl dX10_show_119 ?_
                have hc132 : M124 (c + 1) = some (sObj 4 [.ref (c + 2), .ref (c + 4), .ref (c + 6), .ref (c + 8), .ref (c + 10), .ref (c + 12), .ref (c + 14), .int (sI (f 571))]) := (hf130 (c + 1) (by omega)).trans hc123
                refine sc_getN (ci := 4) (C := RX6) (T := TX6) (n := 8) S hK hV inX6_ hc132 rfl 5 (by decide) (E.2.2.2.2.2.1.1.2.1 _ (List.mem_of_getElem? (i := 12) rfl)) rfl rfl dX10_show_122 ?_
                refine lv_iload hx_ hb_ dX10_show_125 (lv_at hl 0 rfl) ?_
                refine si_const S dX10_show_127 ?_
                refine lv_iload_n hx_ hb_ dX10_show_128 rfl (lv_at hl 4 rfl) ?_
                refine sk_Vv E hV (As := [.int (sI (f 572)), .int (sI 2), .int (sI n)]) (rest := []) (kTw l_ G b_ M124 N88 (c + 12) 4 ((f 572) + 1) 80 (tvU (tvU (tvZ (tvW f) (f 572)) (f 572) 0 s) (f 572) 1 d) (f 572) 2 n hc129 (by omega) (by omega)) (cwV 3 S.2.2.2.2 gX10_show_X8_set rfl rfl rfl (by decide +kernel) ⟨Nat.le_of_ble_eq_true rfl, Nat.le_of_ble_eq_true rfl⟩) (ci := 6) (hc129).1 rfl rfl rfl hl.1 (Nat.le_of_ble_eq_true rfl) dX10_show_129 (c1 := 20) (s1 := 2930) ⟨⟨rfl, rfl⟩, by decide, by decide⟩ (fun M133 N134 H locs hp135 hV => ?_)
                obtain ⟨hN137, hc138, hf139⟩ := hp135
                rw [hN137] at hV
                refine lv_aload_n hx_ hb_ dX10_show_132 rfl (lv_at hl 1 rfl) ?_
                have hc140 : M133 c = some (xO c kn191 (chn ch)) := (hf139 c (by omega)).trans hc131
                refine sc_get (ci := 8) (C := RX10) (T := TX10) (n := 11) S hK hV inX10_ hc140 rfl 0 (by decide) (S.2.2.2.2 _ (List.mem_of_getElem? (i := 3) rfl)) rfl rfl dX10_show_133 ?_
                have hc141 : M133 (c + 1) = some (sObj 4 [.ref (c + 2), .ref (c + 4), .ref (c + 6), .ref (c + 8), .ref (c + 10), .ref (c + 12), .ref (c + 14), .int (sI (f 571))]) := (hf139 (c + 1) (by omega)).trans hc132
                refine sc_getN (ci := 4) (C := RX6) (T := TX6) (n := 8) S hK hV inX6_ hc141 rfl 5 (by decide) (E.2.2.2.2.2.1.1.2.1 _ (List.mem_of_getElem? (i := 12) rfl)) rfl rfl dX10_show_136 ?_
                refine lv_iload hx_ hb_ dX10_show_139 (lv_at hl 0 rfl) ?_
                refine si_const S dX10_show_141 ?_
                refine lv_iload hx_ hb_ dX10_show_142 (lv_at hl 5 rfl) ?_
                refine sk_Vv E hV (As := [.int (sI (f 572)), .int (sI 3), .int (sI l)]) (rest := []) (kTw l_ G b_ M133 N88 (c + 12) 4 ((f 572) + 1) 80 (tvU (tvU (tvU (tvZ (tvW f) (f 572)) (f 572) 0 s) (f 572) 1 d) (f 572) 2 n) (f 572) 3 l hc138 (by omega) (by omega)) (cwV 3 S.2.2.2.2 gX10_show_X8_set rfl rfl rfl (by decide +kernel) ⟨Nat.le_of_ble_eq_true rfl, Nat.le_of_ble_eq_true rfl⟩) (ci := 6) (hc138).1 rfl rfl rfl hl.1 (Nat.le_of_ble_eq_true rfl) dX10_show_144 (c1 := 20) (s1 := 2930) ⟨⟨rfl, rfl⟩, by decide, by decide⟩ (fun M142 N143 H locs hp144 hV => ?_)
                obtain ⟨hN146, hc147, hf148⟩ := hp144
                rw [hN146] at hV
                refine lv_iload hx_ hb_ dX10_show_147 (lv_at hl 0 rfl) ?_
                have hc149 : M142 (c + 1) = some (sObj 4 [.ref (c + 2), .ref (c + 4), .ref (c + 6), .ref (c + 8), .ref (c + 10), .ref (c + 12), .ref (c + 14), .int (sI (f 571))]) := (hf148 (c + 1) (by omega)).trans hc141
                have hc150 : stK G M142 (c + 2) 7 (f 568) 70 (tvS f) := hx98.fr (fun x q8 q9 => ((((hf148 x (by omega)).trans (hf139 x (by omega))).trans (hf130 x (by omega))).trans (hf121 x (by omega))).trans (hf112 x (by omega) (by omega)))
                have hc151 : stK G M142 (c + 4) 2 (f 569) 80 (tvC f) := hx99.fr (fun x q8 q9 => ((((hf148 x (by omega)).trans (hf139 x (by omega))).trans (hf130 x (by omega))).trans (hf121 x (by omega))).trans (hf112 x (by omega) (by omega)))
                have hc152 : stK G M142 (c + 6) 2 4 8 (tvD f) := hx100.fr (fun x q8 q9 => ((((hf148 x (by omega)).trans (hf139 x (by omega))).trans (hf130 x (by omega))).trans (hf121 x (by omega))).trans (hf112 x (by omega) (by omega)))
                have hc153 : stK G M142 (c + 8) 6 6 36 (tvP f) := hx101.fr (fun x q8 q9 => ((((hf148 x (by omega)).trans (hf139 x (by omega))).trans (hf130 x (by omega))).trans (hf121 x (by omega))).trans (hf112 x (by omega) (by omega)))
                have hc154 : stK G M142 (c + 10) 5 (f 570) 300 (tvT f) := hx102.fr (fun x q8 q9 => ((((hf148 x (by omega)).trans (hf139 x (by omega))).trans (hf130 x (by omega))).trans (hf121 x (by omega))).trans (hf112 x (by omega) (by omega)))
                have hc155 : stK G M142 (c + 14) 3 (f 573) 24 (tvO f) := hx104.fr (fun x q8 q9 => ((((hf148 x (by omega)).trans (hf139 x (by omega))).trans (hf130 x (by omega))).trans (hf121 x (by omega))).trans (hf112 x (by omega) (by omega)))
                have hc156 : M142 c = some (xO c kn191 (chn ch)) := (hf148 c (by omega)).trans hc140
                have hc157 : kpC G M142 (c + 31) kb kn191 (chn ch) (fsn ch fs f) := hc94.fr (fun x q8 => ((((hf148 x (by omega)).trans (hf139 x (by omega))).trans (hf130 x (by omega))).trans (hf121 x (by omega))).trans (hf112 x (by omega) (by omega)))
                exact xr_i E hQ dX10_show_149 ⟨Nat.le_of_ble_eq_true rfl, Nat.le_of_ble_eq_true rfl⟩ hV (⟨_, by omega, fun x q0 q1 q2 q3 => ((((((((((hf148 x (by omega)).trans (hf139 x (by omega))).trans (hf130 x (by omega))).trans (hf121 x (by omega))).trans (hf112 x (by omega) (by omega))).trans (hf95 x (by omega) (by omega) (by omega))).trans (hf78 x )).trans (hf62 x )).trans (hf46 x )).trans (hf30 x )).trans (hf14 x ), ⟨(⟨by omega, ⟨by assumption, by omega, by omega, by omega⟩, by omega, (cb_md (by omega) (by omega)).mpr (by omega)⟩), rfl, hc156, stC_u5 kn0 hc149 hc150 hc151 hc152 hc153 hc154 (by rw [show (shF f s (dayI d + 3652) n l) 572 = f 572 + 1 from by unfold shF iup; (repeat (first | rw [if_pos (by omega)] | rw [if_neg (by omega)]))]; exact hc147.c (fun i j q1 q2 q3 q4 => shF_t (by omega) (dat_dt (by assumption)) i j (by omega) (by omega))) hc155 (fun q w1 w2 w3 w4 => by unfold shF iup; (repeat (first | rw [if_pos (by omega)] | rw [if_neg (by omega)]))), hc157⟩⟩)
              · have hc158 : kpC G M65 (c + 31) kb kn ch fs := hkp.fr (fun x q8 => ((((hf78 x ).trans (hf62 x )).trans (hf46 x )).trans (hf30 x )).trans (hf14 x ))
                exact xt_W (own := RX10) (rest := []) E hF_ hxt_ hQ hlt (ik := 80) (is := 313) (ic := 84) (cls := "java/lang/IllegalStateException") (text := "20 shows are told, or it is too much light") (by decide +kernel) xg_IS (List.mem_of_getElem? (i := 1) rfl) (List.mem_of_getElem? (i := 2) rfl) (fun _ h => List.mem_cons_of_mem _ (List.mem_append_left _ (List.mem_append_left _ (List.mem_append_right _ h)))) (List.mem_of_getElem? (i := 19) rfl) hl.1 dX10_show_63 dX10_show_66 dX10_show_67 dX10_show_70 dX10_show_73 ⟨Nat.le_of_ble_eq_true rfl, Nat.le_of_ble_eq_true rfl, Nat.le_of_ble_eq_true rfl, Nat.le_of_ble_eq_true rfl⟩ ⟨Nat.le_of_ble_eq_true rfl, Nat.le_of_ble_eq_true rfl⟩ hV (fun N9 h9 => ⟨_, by omega, fun x q0 q1 q2 q3 => ((((hf78 x ).trans (hf62 x )).trans (hf46 x )).trans (hf30 x )).trans (hf14 x ), Or.inr (Or.inr (⟨(by first | exact ⟨by omega, ⟨by assumption, by omega, by omega, by omega⟩, fun h => absurd h.1 (by omega)⟩ | exact ⟨by omega, ⟨by assumption, by omega, by omega, by omega⟩, fun h => absurd ((cb_md (by omega) (by omega)).mp h.2) (by omega)⟩), rfl, hc81, hc82, hc158⟩))⟩)

abbrev rmX10_offer : Room := { frames := 7, cells := 25, slots := 3000, locals := 125 }
set_option maxHeartbeats 4000000 in
set_option maxRecDepth 100000 in
theorem kX10_offer (l_ : Launch) (G : sG) (b_ : Nat) (M : sM) (N : Nat) (c : Nat) (kn ch : Int) (f : sF) (kb : Nat) (fs : Int → sF) (p g v : Int) (hc0 : M c = some (xO c kn ch)) (hst : stC G M (c + 1) f) (hkp : kpC G M (c + 31) kb kn ch fs) (hlt : l_.stackTraces = false) (hok : sOk f) (hkb : c + 60 ≤ kb) (hkN : kb ≤ N) (hr : sR p ∧ sR g ∧ sR v) : xcI l_ yX10_offer wsX10_offer rmX10_offer G b_ M N [.ref c, .int (sI p), .int (sI g), .int (sI v)] (fun z_ M1 N1 => ∃ kn1 : Int, N ≤ N1 ∧ (∀ x : Nat, ¬ (x = c) → ¬ (x = c + 31) → ¬ (kb ≤ x) → ¬ (c + 1 ≤ x ∧ x < c + 1 + 15) → M1 x = M x) ∧ (((((0 ≤ p ∧ p ≤ 4) ∧ (0 ≤ g ∧ g ≤ 5) ∧ (0 ≤ v ∧ v ≤ 5) ∧ g ≠ v) ∧ f 573 < 8) ∧ z_ = f 573 ∧ M1 c = some (xO c kn1 (chn ch)) ∧ stC G M1 (c + 1) (ofF f p g v) ∧ kpC G M1 (c + 31) kb kn1 (chn ch) (fsn ch fs f)))) (fun E_ M1 N1 => ∃ kn1 : Int, N ≤ N1 ∧ (∀ x : Nat, ¬ (x = c) → ¬ (x = c + 31) → ¬ (kb ≤ x) → ¬ (c + 1 ≤ x ∧ x < c + 1 + 15) → M1 x = M x) ∧ (((¬ ((0 ≤ p ∧ p ≤ 4) ∧ (0 ≤ g ∧ g ≤ 5) ∧ (0 ≤ v ∧ v ≤ 5) ∧ g ≠ v)) ∧ E_ = "java/lang/IllegalArgumentException" ∧ M1 c = some (xO c kn1 ch) ∧ stC G M1 (c + 1) f ∧ kpC G M1 (c + 31) kb kn1 ch fs) ∨ ((((0 ≤ p ∧ p ≤ 4) ∧ (0 ≤ g ∧ g ≤ 5) ∧ (0 ≤ v ∧ v ≤ 5) ∧ g ≠ v) ∧ 8 ≤ f 573) ∧ E_ = "java/lang/IllegalStateException" ∧ M1 c = some (xO c kn1 ch) ∧ stC G M1 (c + 1) f ∧ kpC G M1 (c + 31) kb kn1 ch fs))) := by
  refine xcE.ofI (cc := cX10_offer) (nL := 5) (ret := (some .int)) (by decide) rfl (Nat.le_of_ble_eq_true rfl) ?_
  intro p_ e_ s_ m_ args_ below_ meth_ c_ ls Q hQ E hF_ hxt_ hl
  have E : sE p_ l_ e_ rmX10_offer s_ m_ args_ below_ meth_ c_ cX10_offer 5 wsX10_offer RX10 "offer" (some .int) G b_ M N := E
  have S := E.1
  have hx_ := S.1
  have hb_ := S.2.1
  have hK := E.2.2.2.2.1
  have hV := E.2.2.2.2.2.2
  have hl : lv_has ls 5 [(0, .ref c), (1, .int (sI p)), (2, .int (sI g)), (3, .int (sI v))] := hl
  have inX10_ : ∀ w ∈ wsX100, w ∈ wsX10_offer := fun _ h => List.mem_cons_of_mem _ (List.mem_append_left _ (List.mem_append_left _ (List.mem_append_left _ (List.mem_append_left _ (List.mem_append_right _ h)))))
  have inX6_ : ∀ w ∈ wsX60, w ∈ wsX10_offer := fun _ h => List.mem_cons_of_mem _ (List.mem_append_left _ (List.mem_append_left _ (List.mem_append_left _ (List.mem_append_right _ h))))
  have inX8_ : ∀ w ∈ wsX80, w ∈ wsX10_offer := fun _ h => List.mem_cons_of_mem _ (List.mem_append_left _ (List.mem_append_left _ (List.mem_append_right _ h)))
  have hbN : b_ ≤ N := by have h1 := hV.1.1; have h2 := hV.2.2; omega
  have kn0 := sOk_N hok
  refine lv_iload_n hx_ hb_ dX10_offer_0 rfl (lv_at hl 1 rfl) ?_
  refine si_const S dX10_offer_1 ?_
  refine si_const S dX10_offer_2 ?_
  refine xk_Sv E hF_ hxt_ hQ hV (As := [.int (sI p), .int (sI 0), .int (sI 4)]) (rest := []) (kX10_needRange l_ G b_ M N p 0 4 (by omega) (by omega)) (va_cwS 3 S.2.2.2.2 gX10_offer_X10_needRange rfl rfl rfl (by decide +kernel) ⟨Nat.le_of_ble_eq_true rfl, Nat.le_of_ble_eq_true rfl⟩) rfl rfl hl.1 (Nat.le_of_ble_eq_true rfl) dX10_offer_3 (c1 := 1) (s1 := 6) ⟨⟨rfl, rfl⟩, by decide, by decide⟩ ⟨Nat.le_of_ble_eq_true rfl, Nat.le_of_ble_eq_true rfl⟩ ?_ (fun M1 N2 H locs hp3 hV => ?_)
  · rintro E9 M9 N9 ⟨hN5, hf6, hq7⟩
    rcases hq7 with ⟨c8, ee9⟩
    · have hc10 : M9 c = some (xO c kn ch) := (hf6 c ).trans hc0
      have hc11 : stC G M9 (c + 1) f := hst.fr (fun x q8 q9 => hf6 x )
      have hc12 : kpC G M9 (c + 31) kb kn ch fs := hkp.fr (fun x q8 => hf6 x )
      exact ⟨_, by omega, fun x q0 q1 q2 q3 => hf6 x , Or.inl ⟨(by first | exact c8 | omega), ee9, hc10, hc11, hc12⟩⟩
  obtain ⟨hN13, hf14, hq15⟩ := hp3
  rw [hN13] at hV
  rcases hq15 with c16
  · refine lv_iload_n hx_ hb_ dX10_offer_6 rfl (lv_at hl 2 rfl) ?_
    refine si_const S dX10_offer_7 ?_
    refine si_const S dX10_offer_8 ?_
    refine xk_Sv E hF_ hxt_ hQ hV (As := [.int (sI g), .int (sI 0), .int (sI 5)]) (rest := []) (kX10_needRange l_ G b_ M1 N g 0 5 (by omega) (by omega)) (va_cwS 3 S.2.2.2.2 gX10_offer_X10_needRange rfl rfl rfl (by decide +kernel) ⟨Nat.le_of_ble_eq_true rfl, Nat.le_of_ble_eq_true rfl⟩) rfl rfl hl.1 (Nat.le_of_ble_eq_true rfl) dX10_offer_9 (c1 := 2) (s1 := 12) ⟨⟨rfl, rfl⟩, by decide, by decide⟩ ⟨Nat.le_of_ble_eq_true rfl, Nat.le_of_ble_eq_true rfl⟩ ?_ (fun M17 N18 H locs hp19 hV => ?_)
    · rintro E9 M9 N9 ⟨hN21, hf22, hq23⟩
      rcases hq23 with ⟨c24, ee25⟩
      · have hc26 : M9 c = some (xO c kn ch) := ((hf22 c ).trans (hf14 c )).trans hc0
        have hc27 : stC G M9 (c + 1) f := hst.fr (fun x q8 q9 => (hf22 x ).trans (hf14 x ))
        have hc28 : kpC G M9 (c + 31) kb kn ch fs := hkp.fr (fun x q8 => (hf22 x ).trans (hf14 x ))
        exact ⟨_, by omega, fun x q0 q1 q2 q3 => (hf22 x ).trans (hf14 x ), Or.inl ⟨(by first | exact c24 | omega), ee25, hc26, hc27, hc28⟩⟩
    obtain ⟨hN29, hf30, hq31⟩ := hp19
    rw [hN29] at hV
    rcases hq31 with c32
    · refine lv_iload_n hx_ hb_ dX10_offer_12 rfl (lv_at hl 3 rfl) ?_
      refine si_const S dX10_offer_13 ?_
      refine si_const S dX10_offer_14 ?_
      refine xk_Sv E hF_ hxt_ hQ hV (As := [.int (sI v), .int (sI 0), .int (sI 5)]) (rest := []) (kX10_needRange l_ G b_ M17 N v 0 5 (by omega) (by omega)) (va_cwS 3 S.2.2.2.2 gX10_offer_X10_needRange rfl rfl rfl (by decide +kernel) ⟨Nat.le_of_ble_eq_true rfl, Nat.le_of_ble_eq_true rfl⟩) rfl rfl hl.1 (Nat.le_of_ble_eq_true rfl) dX10_offer_15 (c1 := 3) (s1 := 18) ⟨⟨rfl, rfl⟩, by decide, by decide⟩ ⟨Nat.le_of_ble_eq_true rfl, Nat.le_of_ble_eq_true rfl⟩ ?_ (fun M33 N34 H locs hp35 hV => ?_)
      · rintro E9 M9 N9 ⟨hN37, hf38, hq39⟩
        rcases hq39 with ⟨c40, ee41⟩
        · have hc42 : M9 c = some (xO c kn ch) := (((hf38 c ).trans (hf30 c )).trans (hf14 c )).trans hc0
          have hc43 : stC G M9 (c + 1) f := hst.fr (fun x q8 q9 => ((hf38 x ).trans (hf30 x )).trans (hf14 x ))
          have hc44 : kpC G M9 (c + 31) kb kn ch fs := hkp.fr (fun x q8 => ((hf38 x ).trans (hf30 x )).trans (hf14 x ))
          exact ⟨_, by omega, fun x q0 q1 q2 q3 => ((hf38 x ).trans (hf30 x )).trans (hf14 x ), Or.inl ⟨(by first | exact c40 | omega), ee41, hc42, hc43, hc44⟩⟩
      obtain ⟨hN45, hf46, hq47⟩ := hp35
      rw [hN45] at hV
      rcases hq47 with c48
      · refine lv_iload_n hx_ hb_ dX10_offer_18 rfl (lv_at hl 2 rfl) ?_
        refine lv_iload_n hx_ hb_ dX10_offer_19 rfl (lv_at hl 3 rfl) ?_
        refine sb_ne (tgt := 34) S dX10_offer_20 (by decide) (by omega) (fun c49 => ?_) (fun c49 => ?_)
        · refine lv_aload_n hx_ hb_ dX10_offer_34 rfl (lv_at hl 0 rfl) ?_
          have hc50 : M33 c = some (xO c kn ch) := (((hf46 c ).trans (hf30 c )).trans (hf14 c )).trans hc0
          refine sc_get (ci := 8) (C := RX10) (T := TX10) (n := 11) S hK hV inX10_ hc50 rfl 0 (by decide) (S.2.2.2.2 _ (List.mem_of_getElem? (i := 5) rfl)) rfl rfl dX10_offer_35 ?_
          have hc51 : stC G M33 (c + 1) f := hst.fr (fun x q8 q9 => ((hf46 x ).trans (hf30 x )).trans (hf14 x ))
          refine sc_getN (ci := 4) (C := RX6) (T := TX6) (n := 8) S hK hV inX6_ (hc51).1 rfl 6 (by decide) (E.2.2.2.2.2.1.1.2.1 _ (List.mem_of_getElem? (i := 13) rfl)) rfl rfl dX10_offer_38 ?_
          refine sk_VP E hV (As := []) (rest := []) (kTf l_ G b_ M33 N (c + 14) 3 (f 573) 24 (tvO f) (8 ≤ f 573) ((hc51).2.2.2.2.2.2.2) (by omega) (by omega)) (cwV 0 S.2.2.2.2 gX10_offer_X8_isFull rfl rfl rfl (by decide +kernel) ⟨Nat.le_of_ble_eq_true rfl, Nat.le_of_ble_eq_true rfl⟩) (ci := 6) ((hc51).2.2.2.2.2.2.2).1 rfl rfl rfl hl.1 (Nat.le_of_ble_eq_true rfl) dX10_offer_41 (c1 := 3) (s1 := 18) ⟨⟨rfl, rfl⟩, by decide, by decide⟩ (fun H locs hV => ?_)
          refine sq_eq (tgt := 58) S dX10_offer_44 (by decide) (fun c52 => ?_) (fun c52 => ?_)
          · refine lv_aload_n hx_ hb_ dX10_offer_58 rfl (lv_at hl 0 rfl) ?_
            have hc53 : kpC G M33 (c + 31) kb kn ch fs := hkp.fr (fun x q8 => ((hf46 x ).trans (hf30 x )).trans (hf14 x ))
            refine sk_Vv E hV (As := []) (rest := []) (kX10_keepState l_ G b_ M33 N c kn ch f kb fs hc50 hc51 hc53 (by omega) (by omega) (by omega)) (cwV 0 S.2.2.2.2 gX10_offer_X10_keepState rfl rfl rfl (by decide +kernel) ⟨Nat.le_of_ble_eq_true rfl, Nat.le_of_ble_eq_true rfl⟩) (ci := 8) hc50 rfl rfl rfl hl.1 (Nat.le_of_ble_eq_true rfl) dX10_offer_59 (c1 := 18) (s1 := 2918) ⟨⟨rfl, rfl⟩, by decide, by decide⟩ (fun M54 N55 H locs hp56 hV => ?_)
            obtain ⟨kn158, hN59, hc60, hc61, hf62⟩ := hp56
            refine lv_aload_n hx_ hb_ dX10_offer_62 rfl (lv_at hl 0 rfl) ?_
            refine sc_get (ci := 8) (C := RX10) (T := TX10) (n := 11) S hK hV inX10_ hc60 rfl 0 (by decide) (S.2.2.2.2 _ (List.mem_of_getElem? (i := 5) rfl)) rfl rfl dX10_offer_63 ?_
            have hc63 : stC G M54 (c + 1) f := hc51.fr (fun x q8 q9 => hf62 x (by omega) (by omega) (by omega))
            refine sc_getN (ci := 4) (C := RX6) (T := TX6) (n := 8) S hK hV inX6_ (hc63).1 rfl 6 (by decide) (E.2.2.2.2.2.1.1.2.1 _ (List.mem_of_getElem? (i := 13) rfl)) rfl rfl dX10_offer_66 ?_
            have hx64 : M54 (c + 1) = some (sObj 4 [.ref (c + 2), .ref (c + 4), .ref (c + 6), .ref (c + 8), .ref (c + 10), .ref (c + 12), .ref (c + 14), .int (sI (f 571))]) := (hc63).1
            have hx65 : stK G M54 (c + 2) 7 (f 568) 70 (tvS f) := (hc63).2.1
            have hx66 : stK G M54 (c + 4) 2 (f 569) 80 (tvC f) := (hc63).2.2.1
            have hx67 : stK G M54 (c + 6) 2 4 8 (tvD f) := (hc63).2.2.2.1
            have hx68 : stK G M54 (c + 8) 6 6 36 (tvP f) := (hc63).2.2.2.2.1
            have hx69 : stK G M54 (c + 10) 5 (f 570) 300 (tvT f) := (hc63).2.2.2.2.2.1
            have hx70 : stK G M54 (c + 12) 4 (f 572) 80 (tvW f) := (hc63).2.2.2.2.2.2.1
            have hx71 : stK G M54 (c + 14) 3 (f 573) 24 (tvO f) := (hc63).2.2.2.2.2.2.2
            refine sk_Vi E hV (As := []) (rest := []) (kTa l_ G b_ M54 N55 (c + 14) 3 (f 573) 24 (tvO f) hx71 (by omega)) (cwV 0 S.2.2.2.2 gX10_offer_X8_add rfl rfl rfl (by decide +kernel) ⟨Nat.le_of_ble_eq_true rfl, Nat.le_of_ble_eq_true rfl⟩) (ci := 6) (hx71).1 rfl rfl rfl hl.1 (Nat.le_of_ble_eq_true rfl) dX10_offer_69 (c1 := 18) (s1 := 2918) ⟨⟨rfl, rfl⟩, by decide, by decide⟩ (fun z75 M72 N73 H locs hp74 hV => ?_)
            obtain ⟨ez76, hN77, hc78, hf79⟩ := hp74
            rw [hN77] at hV
            rw [ez76]
            refine lv_istore (lv' := [(4, .int (sI (f 573))), (0, .ref c), (1, .int (sI p)), (2, .int (sI g)), (3, .int (sI v))]) hx_ hb_ dX10_offer_72 hl (by decide) rfl (fun ls hl => ?_)
            refine lv_aload_n hx_ hb_ dX10_offer_74 rfl (lv_at hl 1 rfl) ?_
            have hc80 : M72 c = some (xO c kn158 (chn ch)) := (hf79 c (by omega) (by omega)).trans hc60
            refine sc_get (ci := 8) (C := RX10) (T := TX10) (n := 11) S hK hV inX10_ hc80 rfl 0 (by decide) (S.2.2.2.2 _ (List.mem_of_getElem? (i := 5) rfl)) rfl rfl dX10_offer_75 ?_
            have hc81 : M72 (c + 1) = some (sObj 4 [.ref (c + 2), .ref (c + 4), .ref (c + 6), .ref (c + 8), .ref (c + 10), .ref (c + 12), .ref (c + 14), .int (sI (f 571))]) := (hf79 (c + 1) (by omega) (by omega)).trans hx64
            refine sc_getN (ci := 4) (C := RX6) (T := TX6) (n := 8) S hK hV inX6_ hc81 rfl 6 (by decide) (E.2.2.2.2.2.1.1.2.1 _ (List.mem_of_getElem? (i := 13) rfl)) rfl rfl dX10_offer_78 ?_
            refine lv_iload hx_ hb_ dX10_offer_81 (lv_at hl 0 rfl) ?_
            refine si_const S dX10_offer_83 ?_
            refine lv_iload_n hx_ hb_ dX10_offer_84 rfl (lv_at hl 2 rfl) ?_
            refine sk_Vv E hV (As := [.int (sI (f 573)), .int (sI 0), .int (sI p)]) (rest := []) (kTw l_ G b_ M72 N55 (c + 14) 3 ((f 573) + 1) 24 (tvZ (tvO f) (f 573)) (f 573) 0 p hc78 (by omega) (by omega)) (cwV 3 S.2.2.2.2 gX10_offer_X8_set rfl rfl rfl (by decide +kernel) ⟨Nat.le_of_ble_eq_true rfl, Nat.le_of_ble_eq_true rfl⟩) (ci := 6) (hc78).1 rfl rfl rfl hl.1 (Nat.le_of_ble_eq_true rfl) dX10_offer_85 (c1 := 18) (s1 := 2918) ⟨⟨rfl, rfl⟩, by decide, by decide⟩ (fun M82 N83 H locs hp84 hV => ?_)
            obtain ⟨hN86, hc87, hf88⟩ := hp84
            rw [hN86] at hV
            refine lv_aload_n hx_ hb_ dX10_offer_88 rfl (lv_at hl 1 rfl) ?_
            have hc89 : M82 c = some (xO c kn158 (chn ch)) := (hf88 c (by omega)).trans hc80
            refine sc_get (ci := 8) (C := RX10) (T := TX10) (n := 11) S hK hV inX10_ hc89 rfl 0 (by decide) (S.2.2.2.2 _ (List.mem_of_getElem? (i := 5) rfl)) rfl rfl dX10_offer_89 ?_
            have hc90 : M82 (c + 1) = some (sObj 4 [.ref (c + 2), .ref (c + 4), .ref (c + 6), .ref (c + 8), .ref (c + 10), .ref (c + 12), .ref (c + 14), .int (sI (f 571))]) := (hf88 (c + 1) (by omega)).trans hc81
            refine sc_getN (ci := 4) (C := RX6) (T := TX6) (n := 8) S hK hV inX6_ hc90 rfl 6 (by decide) (E.2.2.2.2.2.1.1.2.1 _ (List.mem_of_getElem? (i := 13) rfl)) rfl rfl dX10_offer_92 ?_
            refine lv_iload hx_ hb_ dX10_offer_95 (lv_at hl 0 rfl) ?_
            refine si_const S dX10_offer_97 ?_
            refine lv_iload_n hx_ hb_ dX10_offer_98 rfl (lv_at hl 3 rfl) ?_
            refine sk_Vv E hV (As := [.int (sI (f 573)), .int (sI 1), .int (sI g)]) (rest := []) (kTw l_ G b_ M82 N55 (c + 14) 3 ((f 573) + 1) 24 (tvU (tvZ (tvO f) (f 573)) (f 573) 0 p) (f 573) 1 g hc87 (by omega) (by omega)) (cwV 3 S.2.2.2.2 gX10_offer_X8_set rfl rfl rfl (by decide +kernel) ⟨Nat.le_of_ble_eq_true rfl, Nat.le_of_ble_eq_true rfl⟩) (ci := 6) (hc87).1 rfl rfl rfl hl.1 (Nat.le_of_ble_eq_true rfl) dX10_offer_99 (c1 := 18) (s1 := 2918) ⟨⟨rfl, rfl⟩, by decide, by decide⟩ (fun M91 N92 H locs hp93 hV => ?_)
            obtain ⟨hN95, hc96, hf97⟩ := hp93
            rw [hN95] at hV
            refine lv_aload_n hx_ hb_ dX10_offer_102 rfl (lv_at hl 1 rfl) ?_
            have hc98 : M91 c = some (xO c kn158 (chn ch)) := (hf97 c (by omega)).trans hc89
            refine sc_get (ci := 8) (C := RX10) (T := TX10) (n := 11) S hK hV inX10_ hc98 rfl 0 (by decide) (S.2.2.2.2 _ (List.mem_of_getElem? (i := 5) rfl)) rfl rfl dX10_offer_103 ?_
            have hc99 : M91 (c + 1) = some (sObj 4 [.ref (c + 2), .ref (c + 4), .ref (c + 6), .ref (c + 8), .ref (c + 10), .ref (c + 12), .ref (c + 14), .int (sI (f 571))]) := (hf97 (c + 1) (by omega)).trans hc90
            refine sc_getN (ci := 4) (C := RX6) (T := TX6) (n := 8) S hK hV inX6_ hc99 rfl 6 (by decide) (E.2.2.2.2.2.1.1.2.1 _ (List.mem_of_getElem? (i := 13) rfl)) rfl rfl dX10_offer_106 ?_
            refine lv_iload hx_ hb_ dX10_offer_109 (lv_at hl 0 rfl) ?_
            refine si_const S dX10_offer_111 ?_
            refine lv_iload_n hx_ hb_ dX10_offer_112 rfl (lv_at hl 4 rfl) ?_
            refine sk_Vv E hV (As := [.int (sI (f 573)), .int (sI 2), .int (sI v)]) (rest := []) (kTw l_ G b_ M91 N55 (c + 14) 3 ((f 573) + 1) 24 (tvU (tvU (tvZ (tvO f) (f 573)) (f 573) 0 p) (f 573) 1 g) (f 573) 2 v hc96 (by omega) (by omega)) (cwV 3 S.2.2.2.2 gX10_offer_X8_set rfl rfl rfl (by decide +kernel) ⟨Nat.le_of_ble_eq_true rfl, Nat.le_of_ble_eq_true rfl⟩) (ci := 6) (hc96).1 rfl rfl rfl hl.1 (Nat.le_of_ble_eq_true rfl) dX10_offer_113 (c1 := 18) (s1 := 2918) ⟨⟨rfl, rfl⟩, by decide, by decide⟩ (fun M100 N101 H locs hp102 hV => ?_)
            obtain ⟨hN104, hc105, hf106⟩ := hp102
            rw [hN104] at hV
            refine lv_iload hx_ hb_ dX10_offer_116 (lv_at hl 0 rfl) ?_
            have hc107 : M100 (c + 1) = some (sObj 4 [.ref (c + 2), .ref (c + 4), .ref (c + 6), .ref (c + 8), .ref (c + 10), .ref (c + 12), .ref (c + 14), .int (sI (f 571))]) := (hf106 (c + 1) (by omega)).trans hc99
            have hc108 : stK G M100 (c + 2) 7 (f 568) 70 (tvS f) := hx65.fr (fun x q8 q9 => (((hf106 x (by omega)).trans (hf97 x (by omega))).trans (hf88 x (by omega))).trans (hf79 x (by omega) (by omega)))
            have hc109 : stK G M100 (c + 4) 2 (f 569) 80 (tvC f) := hx66.fr (fun x q8 q9 => (((hf106 x (by omega)).trans (hf97 x (by omega))).trans (hf88 x (by omega))).trans (hf79 x (by omega) (by omega)))
            have hc110 : stK G M100 (c + 6) 2 4 8 (tvD f) := hx67.fr (fun x q8 q9 => (((hf106 x (by omega)).trans (hf97 x (by omega))).trans (hf88 x (by omega))).trans (hf79 x (by omega) (by omega)))
            have hc111 : stK G M100 (c + 8) 6 6 36 (tvP f) := hx68.fr (fun x q8 q9 => (((hf106 x (by omega)).trans (hf97 x (by omega))).trans (hf88 x (by omega))).trans (hf79 x (by omega) (by omega)))
            have hc112 : stK G M100 (c + 10) 5 (f 570) 300 (tvT f) := hx69.fr (fun x q8 q9 => (((hf106 x (by omega)).trans (hf97 x (by omega))).trans (hf88 x (by omega))).trans (hf79 x (by omega) (by omega)))
            have hc113 : stK G M100 (c + 12) 4 (f 572) 80 (tvW f) := hx70.fr (fun x q8 q9 => (((hf106 x (by omega)).trans (hf97 x (by omega))).trans (hf88 x (by omega))).trans (hf79 x (by omega) (by omega)))
            have hc114 : M100 c = some (xO c kn158 (chn ch)) := (hf106 c (by omega)).trans hc98
            have hc115 : kpC G M100 (c + 31) kb kn158 (chn ch) (fsn ch fs f) := hc61.fr (fun x q8 => (((hf106 x (by omega)).trans (hf97 x (by omega))).trans (hf88 x (by omega))).trans (hf79 x (by omega) (by omega)))
            exact xr_i E hQ dX10_offer_118 ⟨Nat.le_of_ble_eq_true rfl, Nat.le_of_ble_eq_true rfl⟩ hV (⟨_, by omega, fun x q0 q1 q2 q3 => (((((((hf106 x (by omega)).trans (hf97 x (by omega))).trans (hf88 x (by omega))).trans (hf79 x (by omega) (by omega))).trans (hf62 x (by omega) (by omega) (by omega))).trans (hf46 x )).trans (hf30 x )).trans (hf14 x ), ⟨(by omega), rfl, hc114, stC_u6 kn0 hc107 hc108 hc109 hc110 hc111 hc112 hc113 (by rw [show (ofF f p g v) 573 = f 573 + 1 from by unfold ofF iup; (repeat (first | rw [if_pos (by omega)] | rw [if_neg (by omega)]))]; exact hc105.c (fun i j q1 q2 q3 q4 => ofF_t (by omega) i j (by omega) (by omega))) (fun q w1 w2 w3 w4 => by unfold ofF iup; (repeat (first | rw [if_pos (by omega)] | rw [if_neg (by omega)]))), hc115⟩⟩)
          · have hc116 : kpC G M33 (c + 31) kb kn ch fs := hkp.fr (fun x q8 => ((hf46 x ).trans (hf30 x )).trans (hf14 x ))
            exact xt_W (own := RX10) (rest := []) E hF_ hxt_ hQ hlt (ik := 80) (is := 324) (ic := 84) (cls := "java/lang/IllegalStateException") (text := "8 offers are told") (by decide +kernel) xg_IS (List.mem_of_getElem? (i := 3) rfl) (List.mem_of_getElem? (i := 4) rfl) (fun _ h => List.mem_cons_of_mem _ (List.mem_append_right _ h)) (List.mem_of_getElem? (i := 21) rfl) hl.1 dX10_offer_47 dX10_offer_50 dX10_offer_51 dX10_offer_54 dX10_offer_57 ⟨Nat.le_of_ble_eq_true rfl, Nat.le_of_ble_eq_true rfl, Nat.le_of_ble_eq_true rfl, Nat.le_of_ble_eq_true rfl⟩ ⟨Nat.le_of_ble_eq_true rfl, Nat.le_of_ble_eq_true rfl⟩ hV (fun N9 h9 => ⟨_, by omega, fun x q0 q1 q2 q3 => ((hf46 x ).trans (hf30 x )).trans (hf14 x ), Or.inr (⟨(by first | omega | assumption), rfl, hc50, hc51, hc116⟩)⟩)
        · have hc117 : M33 c = some (xO c kn ch) := (((hf46 c ).trans (hf30 c )).trans (hf14 c )).trans hc0
          have hc118 : stC G M33 (c + 1) f := hst.fr (fun x q8 q9 => ((hf46 x ).trans (hf30 x )).trans (hf14 x ))
          have hc119 : kpC G M33 (c + 31) kb kn ch fs := hkp.fr (fun x q8 => ((hf46 x ).trans (hf30 x )).trans (hf14 x ))
          exact xt_W (own := RX10) (rest := []) E hF_ hxt_ hQ hlt (ik := 113) (is := 319) (ic := 117) (cls := "java/lang/IllegalArgumentException") (text := "both kinds are the same") (by decide +kernel) xg_IA (List.mem_of_getElem? (i := 1) rfl) (List.mem_of_getElem? (i := 2) rfl) (fun _ h => List.mem_cons_of_mem _ (List.mem_append_left _ (List.mem_append_right _ h))) (List.mem_of_getElem? (i := 20) rfl) hl.1 dX10_offer_23 dX10_offer_26 dX10_offer_27 dX10_offer_30 dX10_offer_33 ⟨Nat.le_of_ble_eq_true rfl, Nat.le_of_ble_eq_true rfl, Nat.le_of_ble_eq_true rfl, Nat.le_of_ble_eq_true rfl⟩ ⟨Nat.le_of_ble_eq_true rfl, Nat.le_of_ble_eq_true rfl⟩ hV (fun N9 h9 => ⟨_, by omega, fun x q0 q1 q2 q3 => ((hf46 x ).trans (hf30 x )).trans (hf14 x ), Or.inl ⟨(by first | omega | assumption), rfl, hc117, hc118, hc119⟩⟩)

abbrev rmX10_clearOffers : Room := { frames := 5, cells := 25, slots := 3000, locals := 125 }
set_option maxHeartbeats 4000000 in
set_option maxRecDepth 100000 in
theorem kX10_clearOffers (l_ : Launch) (G : sG) (b_ : Nat) (M : sM) (N : Nat) (c : Nat) (kn ch : Int) (f : sF) (kb : Nat) (fs : Int → sF) (hc0 : M c = some (xO c kn ch)) (hst : stC G M (c + 1) f) (hkp : kpC G M (c + 31) kb kn ch fs) (hok : sOk f) (hkb : c + 60 ≤ kb) (hkN : kb ≤ N) : cI l_ yX10_clearOffers wsX10_clearOffers rmX10_clearOffers G b_ M N [.ref c] (fun z_ M1 N1 => ∃ kn1 : Int, z_ = f 573 ∧ N ≤ N1 ∧ M1 c = some (xO c kn1 (chn ch)) ∧ stC G M1 (c + 1) (coF f) ∧ kpC G M1 (c + 31) kb kn1 (chn ch) (fsn ch fs f) ∧ (∀ x : Nat, ¬ (x = c) → ¬ (x = c + 31) → ¬ (kb ≤ x) → ¬ (c + 1 ≤ x ∧ x < c + 1 + 15) → M1 x = M x)) := by
  refine sE.ofI (cc := cX10_clearOffers) (nL := 2) (ret := (some .int)) (by decide) rfl (Nat.le_of_ble_eq_true rfl) ?_
  intro p_ e_ s_ m_ args_ below_ meth_ c_ ls Q hQ E hl
  have E : sE p_ l_ e_ rmX10_clearOffers s_ m_ args_ below_ meth_ c_ cX10_clearOffers 2 wsX10_clearOffers RX10 "clearOffers" (some .int) G b_ M N := E
  have S := E.1
  have hx_ := S.1
  have hb_ := S.2.1
  have hK := E.2.2.2.2.1
  have hV := E.2.2.2.2.2.2
  have hl : lv_has ls 2 [(0, .ref c)] := hl
  have inX10_ : ∀ w ∈ wsX100, w ∈ wsX10_clearOffers := fun _ h => List.mem_cons_of_mem _ (List.mem_append_left _ (List.mem_append_left _ (List.mem_append_right _ h)))
  have inX6_ : ∀ w ∈ wsX60, w ∈ wsX10_clearOffers := fun _ h => List.mem_cons_of_mem _ (List.mem_append_left _ (List.mem_append_right _ h))
  have inX8_ : ∀ w ∈ wsX80, w ∈ wsX10_clearOffers := fun _ h => List.mem_cons_of_mem _ (List.mem_append_right _ h)
  have hbN : b_ ≤ N := by have h1 := hV.1.1; have h2 := hV.2.2; omega
  have kn0 := sOk_N hok
  refine lv_aload_n hx_ hb_ dX10_clearOffers_0 rfl (lv_at hl 0 rfl) ?_
  refine sk_Vv E hV (As := []) (rest := []) (kX10_keepState l_ G b_ M N c kn ch f kb fs hc0 hst hkp (by omega) (by omega) (by omega)) (cwV 0 S.2.2.2.2 gX10_clearOffers_X10_keepState rfl rfl rfl (by decide +kernel) ⟨Nat.le_of_ble_eq_true rfl, Nat.le_of_ble_eq_true rfl⟩) (ci := 8) hc0 rfl rfl rfl hl.1 (Nat.le_of_ble_eq_true rfl) dX10_clearOffers_1 (c1 := 15) (s1 := 2900) ⟨⟨rfl, rfl⟩, by decide, by decide⟩ (fun M1 N2 H locs hp3 hV => ?_)
  obtain ⟨kn15, hN6, hc7, hc8, hf9⟩ := hp3
  refine lv_aload_n hx_ hb_ dX10_clearOffers_4 rfl (lv_at hl 0 rfl) ?_
  refine sc_get (ci := 8) (C := RX10) (T := TX10) (n := 11) S hK hV inX10_ hc7 rfl 0 (by decide) (S.2.2.2.2 _ (List.mem_of_getElem? (i := 1) rfl)) rfl rfl dX10_clearOffers_5 ?_
  have hc10 : stC G M1 (c + 1) f := hst.fr (fun x q8 q9 => hf9 x (by omega) (by omega) (by omega))
  refine sc_getN (ci := 4) (C := RX6) (T := TX6) (n := 8) S hK hV inX6_ (hc10).1 rfl 6 (by decide) (E.2.2.2.2.2.1.1.2.1 _ (List.mem_of_getElem? (i := 13) rfl)) rfl rfl dX10_clearOffers_8 ?_
  refine sk_VP E hV (As := []) (rest := []) (kTs l_ G b_ M1 N2 (c + 14) 3 (f 573) 24 (tvO f) ((hc10).2.2.2.2.2.2.2)) (cwV 0 S.2.2.2.2 gX10_clearOffers_X8_size rfl rfl rfl (by decide +kernel) ⟨Nat.le_of_ble_eq_true rfl, Nat.le_of_ble_eq_true rfl⟩) (ci := 6) ((hc10).2.2.2.2.2.2.2).1 rfl rfl rfl hl.1 (Nat.le_of_ble_eq_true rfl) dX10_clearOffers_11 (c1 := 15) (s1 := 2900) ⟨⟨rfl, rfl⟩, by decide, by decide⟩ (fun H locs hV => ?_)
  refine lv_istore_n (lv' := [(1, .int (sI (f 573))), (0, .ref c)]) hx_ hb_ dX10_clearOffers_14 rfl hl (by decide) rfl (fun ls hl => ?_)
  refine lv_aload_n hx_ hb_ dX10_clearOffers_15 rfl (lv_at hl 1 rfl) ?_
  refine sc_get (ci := 8) (C := RX10) (T := TX10) (n := 11) S hK hV inX10_ hc7 rfl 0 (by decide) (S.2.2.2.2 _ (List.mem_of_getElem? (i := 1) rfl)) rfl rfl dX10_clearOffers_16 ?_
  refine sc_getN (ci := 4) (C := RX6) (T := TX6) (n := 8) S hK hV inX6_ (hc10).1 rfl 6 (by decide) (E.2.2.2.2.2.1.1.2.1 _ (List.mem_of_getElem? (i := 13) rfl)) rfl rfl dX10_clearOffers_19 ?_
  have hx11 : M1 (c + 1) = some (sObj 4 [.ref (c + 2), .ref (c + 4), .ref (c + 6), .ref (c + 8), .ref (c + 10), .ref (c + 12), .ref (c + 14), .int (sI (f 571))]) := (hc10).1
  have hx12 : stK G M1 (c + 2) 7 (f 568) 70 (tvS f) := (hc10).2.1
  have hx13 : stK G M1 (c + 4) 2 (f 569) 80 (tvC f) := (hc10).2.2.1
  have hx14 : stK G M1 (c + 6) 2 4 8 (tvD f) := (hc10).2.2.2.1
  have hx15 : stK G M1 (c + 8) 6 6 36 (tvP f) := (hc10).2.2.2.2.1
  have hx16 : stK G M1 (c + 10) 5 (f 570) 300 (tvT f) := (hc10).2.2.2.2.2.1
  have hx17 : stK G M1 (c + 12) 4 (f 572) 80 (tvW f) := (hc10).2.2.2.2.2.2.1
  have hx18 : stK G M1 (c + 14) 3 (f 573) 24 (tvO f) := (hc10).2.2.2.2.2.2.2
  refine sk_Vv E hV (As := []) (rest := []) (kTc l_ G b_ M1 N2 (c + 14) 3 (f 573) 24 (tvO f) hx18) (cwV 0 S.2.2.2.2 gX10_clearOffers_X8_clear rfl rfl rfl (by decide +kernel) ⟨Nat.le_of_ble_eq_true rfl, Nat.le_of_ble_eq_true rfl⟩) (ci := 6) (hx18).1 rfl rfl rfl hl.1 (Nat.le_of_ble_eq_true rfl) dX10_clearOffers_22 (c1 := 15) (s1 := 2900) ⟨⟨rfl, rfl⟩, by decide, by decide⟩ (fun M19 N20 H locs hp21 hV => ?_)
  obtain ⟨hN23, hc24, hf25⟩ := hp21
  rw [hN23] at hV
  refine lv_iload_n hx_ hb_ dX10_clearOffers_25 rfl (lv_at hl 0 rfl) ?_
  have hc26 : M19 (c + 1) = some (sObj 4 [.ref (c + 2), .ref (c + 4), .ref (c + 6), .ref (c + 8), .ref (c + 10), .ref (c + 12), .ref (c + 14), .int (sI (f 571))]) := (hf25 (c + 1) (by omega)).trans hx11
  have hc27 : stK G M19 (c + 2) 7 (f 568) 70 (tvS f) := hx12.fr (fun x q8 q9 => hf25 x (by omega))
  have hc28 : stK G M19 (c + 4) 2 (f 569) 80 (tvC f) := hx13.fr (fun x q8 q9 => hf25 x (by omega))
  have hc29 : stK G M19 (c + 6) 2 4 8 (tvD f) := hx14.fr (fun x q8 q9 => hf25 x (by omega))
  have hc30 : stK G M19 (c + 8) 6 6 36 (tvP f) := hx15.fr (fun x q8 q9 => hf25 x (by omega))
  have hc31 : stK G M19 (c + 10) 5 (f 570) 300 (tvT f) := hx16.fr (fun x q8 q9 => hf25 x (by omega))
  have hc32 : stK G M19 (c + 12) 4 (f 572) 80 (tvW f) := hx17.fr (fun x q8 q9 => hf25 x (by omega))
  have hc33 : M19 c = some (xO c kn15 (chn ch)) := (hf25 c (by omega)).trans hc7
  have hc34 : kpC G M19 (c + 31) kb kn15 (chn ch) (fsn ch fs f) := hc8.fr (fun x q8 => hf25 x (by omega))
  exact sr_i E hQ dX10_clearOffers_26 ⟨Nat.le_of_ble_eq_true rfl, Nat.le_of_ble_eq_true rfl⟩ hV (⟨_, rfl, by omega, hc33, stC_u6 kn0 hc26 hc27 hc28 hc29 hc30 hc31 hc32 (by rw [show (coF f) 573 = 0 from by unfold coF iup; (repeat (first | rw [if_pos (by omega)] | rw [if_neg (by omega)]))]; exact hc24.c (fun i j q1 q2 q3 q4 => coF_t i j ⟨q1, q2⟩)) (fun q w1 w2 w3 w4 => by unfold coF iup; (repeat (first | rw [if_pos (by omega)] | rw [if_neg (by omega)]))), hc34, fun x q0 q1 q2 q3 => (hf25 x (by omega)).trans (hf9 x (by omega) (by omega) (by omega))⟩)
