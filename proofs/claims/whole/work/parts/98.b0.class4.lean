/-! The class: what changes. -/
theorem takn_c {t : Int} (h : 0 ≤ t) : (takn t = -1 ↔ t = 0) ∧ -1 ≤ takn t ∧ takn t ≤ max 0 t := by
  unfold takn
  split <;> omega
theorem md_r (f : sF) (s Y x l : Int) : 0 ≤ mdI f s Y x l ∧ mdI f s Y x l ≤ 400 := by
  unfold mdI
  rcases idx_cases (fun n => ¬ cbP f s Y x (n + 1) l) 400 with ⟨a, -⟩ | ⟨a, b, -, -⟩
  · rw [a, if_pos rfl]; omega
  · rw [if_neg (by omega)]; omega

abbrev rmX10_scratch : Room := { frames := 8, cells := 25, slots := 3000, locals := 143 }
set_option maxHeartbeats 4000000 in
set_option maxRecDepth 100000 in
theorem kX10_scratch (l_ : Launch) (G : sG) (b_ : Nat) (M : sM) (N : Nat) (c : Nat) (kn ch : Int) (f : sF) (kb : Nat) (fs : Int → sF) (p q : Int) (hc0 : M c = some (xO c kn ch)) (hst : stC G M (c + 1) f) (hkp : kpC G M (c + 31) kb kn ch fs) (hlt : l_.stackTraces = false) (hok : sOk f) (hkb : c + 60 ≤ kb) (hkN : kb ≤ N) (hr : sR p ∧ sR q) : xcI l_ yX10_scratch wsX10_scratch rmX10_scratch G b_ M N [.ref c, .int (sI p), .int (sI q)] (fun z_ M1 N1 => ∃ kn1 : Int, N ≤ N1 ∧ (∀ x : Nat, ¬ (x = c) → ¬ (x = c + 31) → ¬ (kb ≤ x) → ¬ (c + 1 ≤ x ∧ x < c + 1 + 15) → M1 x = M x) ∧ (((((0 ≤ p ∧ p < f 568) ∧ (0 ≤ q ∧ q < f 568)) ∧ p ≠ q ∧ f 569 < 40) ∧ z_ = f 569 ∧ M1 c = some (xO c kn1 (chn ch)) ∧ stC G M1 (c + 1) (scF f p q) ∧ kpC G M1 (c + 31) kb kn1 (chn ch) (fsn ch fs f)))) (fun E_ M1 N1 => ∃ kn1 : Int, N ≤ N1 ∧ (∀ x : Nat, ¬ (x = c) → ¬ (x = c + 31) → ¬ (kb ≤ x) → ¬ (c + 1 ≤ x ∧ x < c + 1 + 15) → M1 x = M x) ∧ (((¬ ((0 ≤ p ∧ p < f 568) ∧ (0 ≤ q ∧ q < f 568))) ∧ E_ = "java/lang/IndexOutOfBoundsException" ∧ M1 c = some (xO c kn1 ch) ∧ stC G M1 (c + 1) f ∧ kpC G M1 (c + 31) kb kn1 ch fs) ∨ ((((0 ≤ p ∧ p < f 568) ∧ (0 ≤ q ∧ q < f 568)) ∧ p = q) ∧ E_ = "java/lang/IllegalArgumentException" ∧ M1 c = some (xO c kn1 ch) ∧ stC G M1 (c + 1) f ∧ kpC G M1 (c + 31) kb kn1 ch fs) ∨ ((((0 ≤ p ∧ p < f 568) ∧ (0 ≤ q ∧ q < f 568)) ∧ p ≠ q ∧ 40 ≤ f 569) ∧ E_ = "java/lang/IllegalStateException" ∧ M1 c = some (xO c kn1 ch) ∧ stC G M1 (c + 1) f ∧ kpC G M1 (c + 31) kb kn1 ch fs))) := by
  refine xcE.ofI (cc := cX10_scratch) (nL := 4) (ret := (some .int)) (by decide) rfl (Nat.le_of_ble_eq_true rfl) ?_
  intro p_ e_ s_ m_ args_ below_ meth_ c_ ls Q hQ E hF_ hxt_ hl
  have E : sE p_ l_ e_ rmX10_scratch s_ m_ args_ below_ meth_ c_ cX10_scratch 4 wsX10_scratch RX10 "scratch" (some .int) G b_ M N := E
  have S := E.1
  have hx_ := S.1
  have hb_ := S.2.1
  have hK := E.2.2.2.2.1
  have hV := E.2.2.2.2.2.2
  have hl : lv_has ls 4 [(0, .ref c), (1, .int (sI p)), (2, .int (sI q))] := hl
  have inX10_ : ∀ w ∈ wsX100, w ∈ wsX10_scratch := fun _ h => List.mem_cons_of_mem _ (List.mem_append_left _ (List.mem_append_left _ (List.mem_append_left _ (List.mem_append_left _ (List.mem_append_left _ (List.mem_append_right _ h))))))
  have inX6_ : ∀ w ∈ wsX60, w ∈ wsX10_scratch := fun _ h => List.mem_cons_of_mem _ (List.mem_append_left _ (List.mem_append_left _ (List.mem_append_left _ (List.mem_append_left _ (List.mem_append_right _ h)))))
  have inX8_ : ∀ w ∈ wsX80, w ∈ wsX10_scratch := fun _ h => List.mem_cons_of_mem _ (List.mem_append_left _ (List.mem_append_left _ (List.mem_append_left _ (List.mem_append_right _ h))))
  have hbN : b_ ≤ N := by have h1 := hV.1.1; have h2 := hV.2.2; omega
  have kn0 := sOk_N hok
  refine lv_aload_n hx_ hb_ dX10_scratch_0 rfl (lv_at hl 0 rfl) ?_
  refine lv_iload_n hx_ hb_ dX10_scratch_1 rfl (lv_at hl 1 rfl) ?_
  refine lv_iload_n hx_ hb_ dX10_scratch_2 rfl (lv_at hl 2 rfl) ?_
  refine xk_Vv E hF_ hxt_ hQ hV (As := [.int (sI p), .int (sI q)]) (rest := []) (kX10_needTwoStones l_ G b_ M N c kn ch f p q hc0 hst (by omega) (by omega) (by omega) (by omega)) (cwV 2 S.2.2.2.2 gX10_scratch_X10_needTwoStones rfl rfl rfl (by decide +kernel) ⟨Nat.le_of_ble_eq_true rfl, Nat.le_of_ble_eq_true rfl⟩) (ci := 8) hc0 rfl rfl rfl hl.1 (Nat.le_of_ble_eq_true rfl) dX10_scratch_3 (c1 := 3) (s1 := 18) ⟨⟨rfl, rfl⟩, by decide, by decide⟩ ⟨Nat.le_of_ble_eq_true rfl, Nat.le_of_ble_eq_true rfl⟩ ?_ (fun M1 N2 H locs hp3 hV => ?_)
  · rintro E9 M9 N9 ⟨hN5, hf6, hq7⟩
    rcases hq7 with ⟨c8, ee9⟩ | ⟨c10, ee11⟩
    · have hc12 : M9 c = some (xO c kn ch) := (hf6 c ).trans hc0
      have hc13 : stC G M9 (c + 1) f := hst.fr (fun x q8 q9 => hf6 x )
      have hc14 : kpC G M9 (c + 31) kb kn ch fs := hkp.fr (fun x q8 => hf6 x )
      exact ⟨_, by omega, fun x q0 q1 q2 q3 => hf6 x , Or.inl ⟨(by first | exact c8 | omega), ee9, hc12, hc13, hc14⟩⟩
    · have hc15 : M9 c = some (xO c kn ch) := (hf6 c ).trans hc0
      have hc16 : stC G M9 (c + 1) f := hst.fr (fun x q8 q9 => hf6 x )
      have hc17 : kpC G M9 (c + 31) kb kn ch fs := hkp.fr (fun x q8 => hf6 x )
      exact ⟨_, by omega, fun x q0 q1 q2 q3 => hf6 x , Or.inr (Or.inl ⟨(by first | exact c10 | omega), ee11, hc15, hc16, hc17⟩)⟩
  obtain ⟨hN18, hf19, hq20⟩ := hp3
  rw [hN18] at hV
  rcases hq20 with c21
  · refine lv_aload_n hx_ hb_ dX10_scratch_6 rfl (lv_at hl 0 rfl) ?_
    have hc22 : M1 c = some (xO c kn ch) := (hf19 c ).trans hc0
    refine sc_get (ci := 8) (C := RX10) (T := TX10) (n := 11) S hK hV inX10_ hc22 rfl 0 (by decide) (S.2.2.2.2 _ (List.mem_of_getElem? (i := 3) rfl)) rfl rfl dX10_scratch_7 ?_
    have hc23 : stC G M1 (c + 1) f := hst.fr (fun x q8 q9 => hf19 x )
    refine sc_getN (ci := 4) (C := RX6) (T := TX6) (n := 8) S hK hV inX6_ (hc23).1 rfl 1 (by decide) (E.2.2.2.2.2.1.1.2.1 _ (List.mem_of_getElem? (i := 6) rfl)) rfl rfl dX10_scratch_10 ?_
    refine sk_VP E hV (As := []) (rest := []) (kTf l_ G b_ M1 N (c + 4) 2 (f 569) 80 (tvC f) (40 ≤ f 569) ((hc23).2.2.1) (by omega) (by omega)) (cwV 0 S.2.2.2.2 gX10_scratch_X8_isFull rfl rfl rfl (by decide +kernel) ⟨Nat.le_of_ble_eq_true rfl, Nat.le_of_ble_eq_true rfl⟩) (ci := 6) ((hc23).2.2.1).1 rfl rfl rfl hl.1 (Nat.le_of_ble_eq_true rfl) dX10_scratch_13 (c1 := 3) (s1 := 18) ⟨⟨rfl, rfl⟩, by decide, by decide⟩ (fun H locs hV => ?_)
    refine sq_eq (tgt := 29) S dX10_scratch_16 (by decide) (fun c24 => ?_) (fun c24 => ?_)
    · refine lv_aload_n hx_ hb_ dX10_scratch_29 rfl (lv_at hl 0 rfl) ?_
      have hc25 : kpC G M1 (c + 31) kb kn ch fs := hkp.fr (fun x q8 => hf19 x )
      refine sk_Vv E hV (As := []) (rest := []) (kX10_keepState l_ G b_ M1 N c kn ch f kb fs hc22 hc23 hc25 (by omega) (by omega) (by omega)) (cwV 0 S.2.2.2.2 gX10_scratch_X10_keepState rfl rfl rfl (by decide +kernel) ⟨Nat.le_of_ble_eq_true rfl, Nat.le_of_ble_eq_true rfl⟩) (ci := 8) hc22 rfl rfl rfl hl.1 (Nat.le_of_ble_eq_true rfl) dX10_scratch_30 (c1 := 18) (s1 := 2918) ⟨⟨rfl, rfl⟩, by decide, by decide⟩ (fun M26 N27 H locs hp28 hV => ?_)
      obtain ⟨kn130, hN31, hc32, hc33, hf34⟩ := hp28
      refine lv_aload_n hx_ hb_ dX10_scratch_33 rfl (lv_at hl 0 rfl) ?_
      refine sc_get (ci := 8) (C := RX10) (T := TX10) (n := 11) S hK hV inX10_ hc32 rfl 0 (by decide) (S.2.2.2.2 _ (List.mem_of_getElem? (i := 3) rfl)) rfl rfl dX10_scratch_34 ?_
      have hc35 : stC G M26 (c + 1) f := hc23.fr (fun x q8 q9 => hf34 x (by omega) (by omega) (by omega))
      refine sc_getN (ci := 4) (C := RX6) (T := TX6) (n := 8) S hK hV inX6_ (hc35).1 rfl 1 (by decide) (E.2.2.2.2.2.1.1.2.1 _ (List.mem_of_getElem? (i := 6) rfl)) rfl rfl dX10_scratch_37 ?_
      have hx36 : M26 (c + 1) = some (sObj 4 [.ref (c + 2), .ref (c + 4), .ref (c + 6), .ref (c + 8), .ref (c + 10), .ref (c + 12), .ref (c + 14), .int (sI (f 571))]) := (hc35).1
      have hx37 : stK G M26 (c + 2) 7 (f 568) 70 (tvS f) := (hc35).2.1
      have hx38 : stK G M26 (c + 4) 2 (f 569) 80 (tvC f) := (hc35).2.2.1
      have hx39 : stK G M26 (c + 6) 2 4 8 (tvD f) := (hc35).2.2.2.1
      have hx40 : stK G M26 (c + 8) 6 6 36 (tvP f) := (hc35).2.2.2.2.1
      have hx41 : stK G M26 (c + 10) 5 (f 570) 300 (tvT f) := (hc35).2.2.2.2.2.1
      have hx42 : stK G M26 (c + 12) 4 (f 572) 80 (tvW f) := (hc35).2.2.2.2.2.2.1
      have hx43 : stK G M26 (c + 14) 3 (f 573) 24 (tvO f) := (hc35).2.2.2.2.2.2.2
      refine sk_Vi E hV (As := []) (rest := []) (kTa l_ G b_ M26 N27 (c + 4) 2 (f 569) 80 (tvC f) hx38 (by omega)) (cwV 0 S.2.2.2.2 gX10_scratch_X8_add rfl rfl rfl (by decide +kernel) ⟨Nat.le_of_ble_eq_true rfl, Nat.le_of_ble_eq_true rfl⟩) (ci := 6) (hx38).1 rfl rfl rfl hl.1 (Nat.le_of_ble_eq_true rfl) dX10_scratch_40 (c1 := 18) (s1 := 2918) ⟨⟨rfl, rfl⟩, by decide, by decide⟩ (fun z47 M44 N45 H locs hp46 hV => ?_)
      obtain ⟨ez48, hN49, hc50, hf51⟩ := hp46
      rw [hN49] at hV
      rw [ez48]
      refine lv_istore_n (lv' := [(3, .int (sI (f 569))), (0, .ref c), (1, .int (sI p)), (2, .int (sI q))]) hx_ hb_ dX10_scratch_43 rfl hl (by decide) rfl (fun ls hl => ?_)
      refine lv_aload_n hx_ hb_ dX10_scratch_44 rfl (lv_at hl 1 rfl) ?_
      have hc52 : M44 c = some (xO c kn130 (chn ch)) := (hf51 c (by omega) (by omega)).trans hc32
      refine sc_get (ci := 8) (C := RX10) (T := TX10) (n := 11) S hK hV inX10_ hc52 rfl 0 (by decide) (S.2.2.2.2 _ (List.mem_of_getElem? (i := 3) rfl)) rfl rfl dX10_scratch_45 ?_
      have hc53 : M44 (c + 1) = some (sObj 4 [.ref (c + 2), .ref (c + 4), .ref (c + 6), .ref (c + 8), .ref (c + 10), .ref (c + 12), .ref (c + 14), .int (sI (f 571))]) := (hf51 (c + 1) (by omega) (by omega)).trans hx36
      refine sc_getN (ci := 4) (C := RX6) (T := TX6) (n := 8) S hK hV inX6_ hc53 rfl 1 (by decide) (E.2.2.2.2.2.1.1.2.1 _ (List.mem_of_getElem? (i := 6) rfl)) rfl rfl dX10_scratch_48 ?_
      refine lv_iload_n hx_ hb_ dX10_scratch_51 rfl (lv_at hl 0 rfl) ?_
      refine si_const S dX10_scratch_52 ?_
      refine lv_iload_n hx_ hb_ dX10_scratch_53 rfl (lv_at hl 2 rfl) ?_
      refine sk_Vv E hV (As := [.int (sI (f 569)), .int (sI 0), .int (sI p)]) (rest := []) (kTw l_ G b_ M44 N27 (c + 4) 2 ((f 569) + 1) 80 (tvZ (tvC f) (f 569)) (f 569) 0 p hc50 (by omega) (by omega)) (cwV 3 S.2.2.2.2 gX10_scratch_X8_set rfl rfl rfl (by decide +kernel) ⟨Nat.le_of_ble_eq_true rfl, Nat.le_of_ble_eq_true rfl⟩) (ci := 6) (hc50).1 rfl rfl rfl hl.1 (Nat.le_of_ble_eq_true rfl) dX10_scratch_54 (c1 := 18) (s1 := 2918) ⟨⟨rfl, rfl⟩, by decide, by decide⟩ (fun M54 N55 H locs hp56 hV => ?_)
      obtain ⟨hN58, hc59, hf60⟩ := hp56
      rw [hN58] at hV
      refine lv_aload_n hx_ hb_ dX10_scratch_57 rfl (lv_at hl 1 rfl) ?_
      have hc61 : M54 c = some (xO c kn130 (chn ch)) := (hf60 c (by omega)).trans hc52
      refine sc_get (ci := 8) (C := RX10) (T := TX10) (n := 11) S hK hV inX10_ hc61 rfl 0 (by decide) (S.2.2.2.2 _ (List.mem_of_getElem? (i := 3) rfl)) rfl rfl dX10_scratch_58 ?_
      have hc62 : M54 (c + 1) = some (sObj 4 [.ref (c + 2), .ref (c + 4), .ref (c + 6), .ref (c + 8), .ref (c + 10), .ref (c + 12), .ref (c + 14), .int (sI (f 571))]) := (hf60 (c + 1) (by omega)).trans hc53
      refine sc_getN (ci := 4) (C := RX6) (T := TX6) (n := 8) S hK hV inX6_ hc62 rfl 1 (by decide) (E.2.2.2.2.2.1.1.2.1 _ (List.mem_of_getElem? (i := 6) rfl)) rfl rfl dX10_scratch_61 ?_
      refine lv_iload_n hx_ hb_ dX10_scratch_64 rfl (lv_at hl 0 rfl) ?_
      refine si_const S dX10_scratch_65 ?_
      refine lv_iload_n hx_ hb_ dX10_scratch_66 rfl (lv_at hl 3 rfl) ?_
      refine sk_Vv E hV (As := [.int (sI (f 569)), .int (sI 1), .int (sI q)]) (rest := []) (kTw l_ G b_ M54 N27 (c + 4) 2 ((f 569) + 1) 80 (tvU (tvZ (tvC f) (f 569)) (f 569) 0 p) (f 569) 1 q hc59 (by omega) (by omega)) (cwV 3 S.2.2.2.2 gX10_scratch_X8_set rfl rfl rfl (by decide +kernel) ⟨Nat.le_of_ble_eq_true rfl, Nat.le_of_ble_eq_true rfl⟩) (ci := 6) (hc59).1 rfl rfl rfl hl.1 (Nat.le_of_ble_eq_true rfl) dX10_scratch_67 (c1 := 18) (s1 := 2918) ⟨⟨rfl, rfl⟩, by decide, by decide⟩ (fun M63 N64 H locs hp65 hV => ?_)
      obtain ⟨hN67, hc68, hf69⟩ := hp65
      rw [hN67] at hV
      refine lv_iload_n hx_ hb_ dX10_scratch_70 rfl (lv_at hl 0 rfl) ?_
      have hc70 : M63 (c + 1) = some (sObj 4 [.ref (c + 2), .ref (c + 4), .ref (c + 6), .ref (c + 8), .ref (c + 10), .ref (c + 12), .ref (c + 14), .int (sI (f 571))]) := (hf69 (c + 1) (by omega)).trans hc62
      have hc71 : stK G M63 (c + 2) 7 (f 568) 70 (tvS f) := hx37.fr (fun x q8 q9 => ((hf69 x (by omega)).trans (hf60 x (by omega))).trans (hf51 x (by omega) (by omega)))
      have hc72 : stK G M63 (c + 6) 2 4 8 (tvD f) := hx39.fr (fun x q8 q9 => ((hf69 x (by omega)).trans (hf60 x (by omega))).trans (hf51 x (by omega) (by omega)))
      have hc73 : stK G M63 (c + 8) 6 6 36 (tvP f) := hx40.fr (fun x q8 q9 => ((hf69 x (by omega)).trans (hf60 x (by omega))).trans (hf51 x (by omega) (by omega)))
      have hc74 : stK G M63 (c + 10) 5 (f 570) 300 (tvT f) := hx41.fr (fun x q8 q9 => ((hf69 x (by omega)).trans (hf60 x (by omega))).trans (hf51 x (by omega) (by omega)))
      have hc75 : stK G M63 (c + 12) 4 (f 572) 80 (tvW f) := hx42.fr (fun x q8 q9 => ((hf69 x (by omega)).trans (hf60 x (by omega))).trans (hf51 x (by omega) (by omega)))
      have hc76 : stK G M63 (c + 14) 3 (f 573) 24 (tvO f) := hx43.fr (fun x q8 q9 => ((hf69 x (by omega)).trans (hf60 x (by omega))).trans (hf51 x (by omega) (by omega)))
      have hc77 : M63 c = some (xO c kn130 (chn ch)) := (hf69 c (by omega)).trans hc61
      have hc78 : kpC G M63 (c + 31) kb kn130 (chn ch) (fsn ch fs f) := hc33.fr (fun x q8 => ((hf69 x (by omega)).trans (hf60 x (by omega))).trans (hf51 x (by omega) (by omega)))
      exact xr_i E hQ dX10_scratch_71 ⟨Nat.le_of_ble_eq_true rfl, Nat.le_of_ble_eq_true rfl⟩ hV (⟨_, by omega, fun x q0 q1 q2 q3 => ((((hf69 x (by omega)).trans (hf60 x (by omega))).trans (hf51 x (by omega) (by omega))).trans (hf34 x (by omega) (by omega) (by omega))).trans (hf19 x ), ⟨(by omega), rfl, hc77, stC_u1 kn0 hc70 hc71 (by rw [show (scF f p q) 569 = f 569 + 1 from by unfold scF iup; (repeat (first | rw [if_pos (by omega)] | rw [if_neg (by omega)]))]; exact hc68.c (fun i j q1 q2 q3 q4 => scF_t (by omega) i j (by omega) (by omega))) hc72 hc73 hc74 hc75 hc76 (fun q w1 w2 w3 w4 => by unfold scF iup; (repeat (first | rw [if_pos (by omega)] | rw [if_neg (by omega)]))), hc78⟩⟩)
    · have hc79 : kpC G M1 (c + 31) kb kn ch fs := hkp.fr (fun x q8 => hf19 x )
      exact xt_S (own := RX10) (rest := []) E hF_ hxt_ hQ hlt (ik := 80) (is := 161) (ic := 84) (cls := "java/lang/IllegalStateException") (text := "40 scratches are told") (by decide +kernel) xg_IS (List.mem_of_getElem? (i := 1) rfl) (List.mem_of_getElem? (i := 2) rfl) (fun _ h => List.mem_cons_of_mem _ (List.mem_append_left _ (List.mem_append_left _ (List.mem_append_right _ h)))) (List.mem_of_getElem? (i := 6) rfl) hl.1 dX10_scratch_19 dX10_scratch_22 dX10_scratch_23 dX10_scratch_25 dX10_scratch_28 ⟨Nat.le_of_ble_eq_true rfl, Nat.le_of_ble_eq_true rfl, Nat.le_of_ble_eq_true rfl, Nat.le_of_ble_eq_true rfl⟩ ⟨Nat.le_of_ble_eq_true rfl, Nat.le_of_ble_eq_true rfl⟩ hV (fun N9 h9 => ⟨_, by omega, fun x q0 q1 q2 q3 => hf19 x , Or.inr (Or.inr (⟨(by first | omega | assumption), rfl, hc22, hc23, hc79⟩))⟩)

abbrev rmX10_unscratch : Room := { frames := 6, cells := 25, slots := 3000, locals := 125 }
set_option maxHeartbeats 4000000 in
set_option maxRecDepth 100000 in
theorem kX10_unscratch (l_ : Launch) (G : sG) (b_ : Nat) (M : sM) (N : Nat) (c : Nat) (kn ch : Int) (f : sF) (kb : Nat) (fs : Int → sF) (a0 : Int) (hc0 : M c = some (xO c kn ch)) (hst : stC G M (c + 1) f) (hkp : kpC G M (c + 31) kb kn ch fs) (hlt : l_.stackTraces = false) (hok : sOk f) (hkb : c + 60 ≤ kb) (hkN : kb ≤ N) (hr : sR a0) : xcI l_ yX10_unscratch wsX10_unscratch rmX10_unscratch G b_ M N [.ref c, .int (sI a0)] (fun z_ M1 N1 => ∃ kn1 : Int, N ≤ N1 ∧ (∀ x : Nat, ¬ (x = c) → ¬ (x = c + 31) → ¬ (kb ≤ x) → ¬ (c + 1 ≤ x ∧ x < c + 1 + 15) → M1 x = M x) ∧ ((((0 ≤ a0 ∧ a0 < f 569)) ∧ z_ = f 569 - 1 ∧ M1 c = some (xO c kn1 (chn ch)) ∧ stC G M1 (c + 1) (usF f a0) ∧ kpC G M1 (c + 31) kb kn1 (chn ch) (fsn ch fs f)))) (fun E_ M1 N1 => ∃ kn1 : Int, N ≤ N1 ∧ (∀ x : Nat, ¬ (x = c) → ¬ (x = c + 31) → ¬ (kb ≤ x) → ¬ (c + 1 ≤ x ∧ x < c + 1 + 15) → M1 x = M x) ∧ (((¬ (0 ≤ a0 ∧ a0 < f 569)) ∧ E_ = "java/lang/IndexOutOfBoundsException" ∧ M1 c = some (xO c kn1 ch) ∧ stC G M1 (c + 1) f ∧ kpC G M1 (c + 31) kb kn1 ch fs))) := by
  refine xcE.ofI (cc := cX10_unscratch) (nL := 2) (ret := (some .int)) (by decide) rfl (Nat.le_of_ble_eq_true rfl) ?_
  intro p_ e_ s_ m_ args_ below_ meth_ c_ ls Q hQ E hF_ hxt_ hl
  have E : sE p_ l_ e_ rmX10_unscratch s_ m_ args_ below_ meth_ c_ cX10_unscratch 2 wsX10_unscratch RX10 "unscratch" (some .int) G b_ M N := E
  have S := E.1
  have hx_ := S.1
  have hb_ := S.2.1
  have hK := E.2.2.2.2.1
  have hV := E.2.2.2.2.2.2
  have hl : lv_has ls 2 [(0, .ref c), (1, .int (sI a0))] := hl
  have inX10_ : ∀ w ∈ wsX100, w ∈ wsX10_unscratch := fun _ h => List.mem_cons_of_mem _ (List.mem_append_left _ (List.mem_append_left _ (List.mem_append_left _ (List.mem_append_right _ h))))
  have inX6_ : ∀ w ∈ wsX60, w ∈ wsX10_unscratch := fun _ h => List.mem_cons_of_mem _ (List.mem_append_left _ (List.mem_append_left _ (List.mem_append_right _ h)))
  have inX8_ : ∀ w ∈ wsX80, w ∈ wsX10_unscratch := fun _ h => List.mem_cons_of_mem _ (List.mem_append_left _ (List.mem_append_right _ h))
  have hbN : b_ ≤ N := by have h1 := hV.1.1; have h2 := hV.2.2; omega
  have kn0 := sOk_N hok
  refine lv_aload_n hx_ hb_ dX10_unscratch_0 rfl (lv_at hl 0 rfl) ?_
  refine sc_get (ci := 8) (C := RX10) (T := TX10) (n := 11) S hK hV inX10_ hc0 rfl 0 (by decide) (S.2.2.2.2 _ (List.mem_of_getElem? (i := 3) rfl)) rfl rfl dX10_unscratch_1 ?_
  refine sc_getN (ci := 4) (C := RX6) (T := TX6) (n := 8) S hK hV inX6_ (hst).1 rfl 1 (by decide) (E.2.2.2.2.2.1.1.2.1 _ (List.mem_of_getElem? (i := 6) rfl)) rfl rfl dX10_unscratch_4 ?_
  refine lv_iload_n hx_ hb_ dX10_unscratch_7 rfl (lv_at hl 1 rfl) ?_
  refine sk_VP E hV (As := [.int (sI a0)]) (rest := []) (kTh l_ G b_ M N (c + 4) 2 (f 569) 80 (tvC f) a0 ((hst).2.2.1) (by omega)) (cwV 1 S.2.2.2.2 gX10_unscratch_X8_has rfl rfl rfl (by decide +kernel) ⟨Nat.le_of_ble_eq_true rfl, Nat.le_of_ble_eq_true rfl⟩) (ci := 6) ((hst).2.2.1).1 rfl rfl rfl hl.1 (Nat.le_of_ble_eq_true rfl) dX10_unscratch_8 (c1 := 0) (s1 := 0) ⟨⟨rfl, rfl⟩, by decide, by decide⟩ (fun H locs hV => ?_)
  refine sq_ne (tgt := 24) S dX10_unscratch_11 (by decide) (fun c1 => ?_) (fun c1 => ?_)
  · refine lv_aload_n hx_ hb_ dX10_unscratch_24 rfl (lv_at hl 0 rfl) ?_
    refine sk_Vv E hV (As := []) (rest := []) (kX10_keepState l_ G b_ M N c kn ch f kb fs hc0 hst hkp (by omega) (by omega) (by omega)) (cwV 0 S.2.2.2.2 gX10_unscratch_X10_keepState rfl rfl rfl (by decide +kernel) ⟨Nat.le_of_ble_eq_true rfl, Nat.le_of_ble_eq_true rfl⟩) (ci := 8) hc0 rfl rfl rfl hl.1 (Nat.le_of_ble_eq_true rfl) dX10_unscratch_25 (c1 := 15) (s1 := 2900) ⟨⟨rfl, rfl⟩, by decide, by decide⟩ (fun M2 N3 H locs hp4 hV => ?_)
    obtain ⟨kn16, hN7, hc8, hc9, hf10⟩ := hp4
    refine lv_aload_n hx_ hb_ dX10_unscratch_28 rfl (lv_at hl 0 rfl) ?_
    refine sc_get (ci := 8) (C := RX10) (T := TX10) (n := 11) S hK hV inX10_ hc8 rfl 0 (by decide) (S.2.2.2.2 _ (List.mem_of_getElem? (i := 3) rfl)) rfl rfl dX10_unscratch_29 ?_
    have hc11 : stC G M2 (c + 1) f := hst.fr (fun x q8 q9 => hf10 x (by omega) (by omega) (by omega))
    refine sc_getN (ci := 4) (C := RX6) (T := TX6) (n := 8) S hK hV inX6_ (hc11).1 rfl 1 (by decide) (E.2.2.2.2.2.1.1.2.1 _ (List.mem_of_getElem? (i := 6) rfl)) rfl rfl dX10_unscratch_32 ?_
    refine lv_iload_n hx_ hb_ dX10_unscratch_35 rfl (lv_at hl 1 rfl) ?_
    have hx12 : M2 (c + 1) = some (sObj 4 [.ref (c + 2), .ref (c + 4), .ref (c + 6), .ref (c + 8), .ref (c + 10), .ref (c + 12), .ref (c + 14), .int (sI (f 571))]) := (hc11).1
    have hx13 : stK G M2 (c + 2) 7 (f 568) 70 (tvS f) := (hc11).2.1
    have hx14 : stK G M2 (c + 4) 2 (f 569) 80 (tvC f) := (hc11).2.2.1
    have hx15 : stK G M2 (c + 6) 2 4 8 (tvD f) := (hc11).2.2.2.1
    have hx16 : stK G M2 (c + 8) 6 6 36 (tvP f) := (hc11).2.2.2.2.1
    have hx17 : stK G M2 (c + 10) 5 (f 570) 300 (tvT f) := (hc11).2.2.2.2.2.1
    have hx18 : stK G M2 (c + 12) 4 (f 572) 80 (tvW f) := (hc11).2.2.2.2.2.2.1
    have hx19 : stK G M2 (c + 14) 3 (f 573) 24 (tvO f) := (hc11).2.2.2.2.2.2.2
    refine sk_Vv E hV (As := [.int (sI a0)]) (rest := []) (kTr l_ G b_ M2 N3 (c + 4) 2 (f 569) 80 (tvC f) a0 hx14 (by omega) (by omega)) (cwV 1 S.2.2.2.2 gX10_unscratch_X8_remove rfl rfl rfl (by decide +kernel) ⟨Nat.le_of_ble_eq_true rfl, Nat.le_of_ble_eq_true rfl⟩) (ci := 6) (hx14).1 rfl rfl rfl hl.1 (Nat.le_of_ble_eq_true rfl) dX10_unscratch_36 (c1 := 15) (s1 := 2900) ⟨⟨rfl, rfl⟩, by decide, by decide⟩ (fun M20 N21 H locs hp22 hV => ?_)
    obtain ⟨hN24, hc25, hf26⟩ := hp22
    rw [hN24] at hV
    refine lv_aload_n hx_ hb_ dX10_unscratch_39 rfl (lv_at hl 0 rfl) ?_
    have hc27 : M20 c = some (xO c kn16 (chn ch)) := (hf26 c (by omega) (by omega)).trans hc8
    refine sc_get (ci := 8) (C := RX10) (T := TX10) (n := 11) S hK hV inX10_ hc27 rfl 0 (by decide) (S.2.2.2.2 _ (List.mem_of_getElem? (i := 3) rfl)) rfl rfl dX10_unscratch_40 ?_
    have hc28 : M20 (c + 1) = some (sObj 4 [.ref (c + 2), .ref (c + 4), .ref (c + 6), .ref (c + 8), .ref (c + 10), .ref (c + 12), .ref (c + 14), .int (sI (f 571))]) := (hf26 (c + 1) (by omega) (by omega)).trans hx12
    refine sc_getN (ci := 4) (C := RX6) (T := TX6) (n := 8) S hK hV inX6_ hc28 rfl 1 (by decide) (E.2.2.2.2.2.1.1.2.1 _ (List.mem_of_getElem? (i := 6) rfl)) rfl rfl dX10_unscratch_43 ?_
    refine sk_VP E hV (As := []) (rest := []) (kTs l_ G b_ M20 N3 (c + 4) 2 ((f 569) - 1) 80 (tvR (tvC f) a0) hc25) (cwV 0 S.2.2.2.2 gX10_unscratch_X8_size rfl rfl rfl (by decide +kernel) ⟨Nat.le_of_ble_eq_true rfl, Nat.le_of_ble_eq_true rfl⟩) (ci := 6) (hc25).1 rfl rfl rfl hl.1 (Nat.le_of_ble_eq_true rfl) dX10_unscratch_46 (c1 := 15) (s1 := 2900) ⟨⟨rfl, rfl⟩, by decide, by decide⟩ (fun H locs hV => ?_)
    have hc29 : stK G M20 (c + 2) 7 (f 568) 70 (tvS f) := hx13.fr (fun x q8 q9 => hf26 x (by omega) (by omega))
    have hc30 : stK G M20 (c + 6) 2 4 8 (tvD f) := hx15.fr (fun x q8 q9 => hf26 x (by omega) (by omega))
    have hc31 : stK G M20 (c + 8) 6 6 36 (tvP f) := hx16.fr (fun x q8 q9 => hf26 x (by omega) (by omega))
    have hc32 : stK G M20 (c + 10) 5 (f 570) 300 (tvT f) := hx17.fr (fun x q8 q9 => hf26 x (by omega) (by omega))
    have hc33 : stK G M20 (c + 12) 4 (f 572) 80 (tvW f) := hx18.fr (fun x q8 q9 => hf26 x (by omega) (by omega))
    have hc34 : stK G M20 (c + 14) 3 (f 573) 24 (tvO f) := hx19.fr (fun x q8 q9 => hf26 x (by omega) (by omega))
    have hc35 : kpC G M20 (c + 31) kb kn16 (chn ch) (fsn ch fs f) := hc9.fr (fun x q8 => hf26 x (by omega) (by omega))
    exact xr_i E hQ dX10_unscratch_49 ⟨Nat.le_of_ble_eq_true rfl, Nat.le_of_ble_eq_true rfl⟩ hV (⟨_, by omega, fun x q0 q1 q2 q3 => (hf26 x (by omega) (by omega)).trans (hf10 x (by omega) (by omega) (by omega)), ⟨(by omega), rfl, hc27, stC_u1 kn0 hc28 hc29 (by rw [show (usF f a0) 569 = f 569 - 1 from by unfold usF usK; (repeat (first | rw [if_pos (by omega)] | rw [if_neg (by omega)]))]; exact hc25.c (fun i j q1 q2 q3 q4 => usF_t (by omega) i j (by omega) (by omega))) hc30 hc31 hc32 hc33 hc34 (fun q w1 w2 w3 w4 => by unfold usF usK; (repeat (first | rw [if_pos (by omega)] | rw [if_neg (by omega)]))), hc35⟩⟩)
  · exact xt_S (own := RX10) (rest := []) E hF_ hxt_ hQ hlt (ik := 173) (is := 175) (ic := 177) (cls := "java/lang/IndexOutOfBoundsException") (text := "no such scratch") (by decide +kernel) xg_IO (List.mem_of_getElem? (i := 1) rfl) (List.mem_of_getElem? (i := 2) rfl) (fun _ h => List.mem_cons_of_mem _ (List.mem_append_right _ h)) (List.mem_of_getElem? (i := 7) rfl) hl.1 dX10_unscratch_14 dX10_unscratch_17 dX10_unscratch_18 dX10_unscratch_20 dX10_unscratch_23 ⟨Nat.le_of_ble_eq_true rfl, Nat.le_of_ble_eq_true rfl, Nat.le_of_ble_eq_true rfl, Nat.le_of_ble_eq_true rfl⟩ ⟨Nat.le_of_ble_eq_true rfl, Nat.le_of_ble_eq_true rfl⟩ hV (fun N9 h9 => ⟨_, by omega, fun x q0 q1 q2 q3 => rfl, ⟨(by first | omega | assumption), rfl, hc0, hst, hkp⟩⟩)

