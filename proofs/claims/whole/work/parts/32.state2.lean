theorem idx_st {P : Int → Prop} {i : Int} (h : ∀ k, 0 ≤ k → k < i → ¬ P k) (h2 : ¬ P i) : ∀ k, 0 ≤ k → k < i + 1 → ¬ P k := fun k a b => by
  by_cases hk : k = i
  · rw [hk]; exact h2
  · exact h k a (by omega)

abbrev rmX6_numberOf : Room := { frames := 2, cells := 0, slots := 0, locals := 63 }
set_option maxHeartbeats 4000000 in
set_option maxRecDepth 100000 in
theorem kX6_numberOf (l_ : Launch) (G : sG) (b_ : Nat) (M : sM) (N : Nat) (a : Nat) (f : sF) (c : Int) (hst : stC G M a f) (hok : sOk f) (hc : 0 ≤ c ∧ c < 531441) : cP l_ yX6_numberOf wsX6_numberOf rmX6_numberOf G b_ M N [.ref a, .int (sI (cod c))] (idx (fun q => f q = c) (f 568)) := by
  refine sE.ofI (cc := cX6_numberOf) (nL := 3) (ret := (some .int)) (by decide) rfl (Nat.le_of_ble_eq_true rfl) ?_
  intro p_ e_ s_ m_ args_ below_ meth_ c_ ls Q hQ E hl
  have E : sE p_ l_ e_ rmX6_numberOf s_ m_ args_ below_ meth_ c_ cX6_numberOf 3 wsX6_numberOf RX6 "numberOf" (some .int) G b_ M N := E
  have S := E.1
  have hx_ := S.1
  have hb_ := S.2.1
  have hK := E.2.2.2.2.1
  have hV := E.2.2.2.2.2.2
  have hl : lv_has ls 3 [(0, .ref a), (1, .int (sI (cod c)))] := hl
  have inX6_ : ∀ w ∈ wsX60, w ∈ wsX6_numberOf := fun _ h => List.mem_cons_of_mem _ (List.mem_append_left _ (List.mem_append_right _ h))
  have inX8_ : ∀ w ∈ wsX80, w ∈ wsX6_numberOf := fun _ h => List.mem_cons_of_mem _ (List.mem_append_right _ h)
  have kn0 := sOk_N hok
  have hcr := cod_r hc
  refine si_const S dX6_numberOf_0 ?_
  refine lv_istore_n (lv' := [(2, .int (sI 0)), (0, .ref a), (1, .int (sI (cod c)))]) hx_ hb_ dX6_numberOf_1 rfl hl (by decide) rfl (fun ls hl => ?_)
  have L2 : ∀ (fuel : Nat) (i : Int)  (H : Heap) (locs : List Loc) (ls : Array Slot), ((f 568 - i).toNat) < fuel → (0 ≤ i ∧ i ≤ f 568) → (∀ k, 0 ≤ k → k < i → ¬ f k = c) → sV G b_ M N s_ H locs → lv_has ls 3 [(0, .ref a), (1, .int (sI (cod c))), (2, .int (sI i))] → W p_ l_ e_ rmX6_numberOf s_ m_ args_ below_ meth_ c_ H locs 0 0 Q (F0 m_ 2 ls []) := by
    intro fuel
    induction fuel with
    | zero => intro i H locs ls hmu; exact absurd hmu (Nat.not_lt_zero _)
    | succ fuel ih2 =>
      intro i H locs ls hmu2 hv2_0 hn  hV hl
      refine lv_iload_n hx_ hb_ dX6_numberOf_2 rfl (lv_at hl 2 rfl) ?_
      refine lv_aload_n hx_ hb_ dX6_numberOf_3 rfl (lv_at hl 0 rfl) ?_
      refine sc_get (ci := 4) (C := RX6) (T := TX6) (n := 8) S hK hV inX6_ (hst).1 rfl 0 (by decide) (S.2.2.2.2 _ (List.mem_of_getElem? (i := 1) rfl)) rfl rfl dX6_numberOf_4 ?_
      refine sk_VP E hV (As := []) (rest := [.int (sI i)]) (kTs l_ G b_ M N (a + 1) 7 (f 568) 70 (tvS f) ((hst).2.1)) (cwV 0 S.2.2.2.2 gX6_numberOf_X8_size rfl rfl rfl (by decide +kernel) ⟨Nat.le_of_ble_eq_true rfl, Nat.le_of_ble_eq_true rfl⟩) (ci := 6) ((hst).2.1).1 rfl rfl rfl hl.1 (Nat.le_of_ble_eq_true rfl) dX6_numberOf_7 (c1 := 0) (s1 := 0) ⟨⟨rfl, rfl⟩, by decide, by decide⟩ (fun H locs hV => ?_)
      refine sb_ge (tgt := 34) S dX6_numberOf_10 (by decide) (by omega) (fun c1 => ?_) (fun c1 => ?_)
      · refine si_const S dX6_numberOf_34 ?_
        exact sr_i E hQ dX6_numberOf_35 ⟨Nat.le_of_ble_eq_true rfl, Nat.le_of_ble_eq_true rfl⟩ hV (⟨(idx_none (P := fun q => f q = c) (by rw [show f 568 = i by omega]; exact hn)).symm, rfl, rfl⟩)
      · refine lv_aload_n hx_ hb_ dX6_numberOf_13 rfl (lv_at hl 0 rfl) ?_
        refine sc_get (ci := 4) (C := RX6) (T := TX6) (n := 8) S hK hV inX6_ (hst).1 rfl 0 (by decide) (S.2.2.2.2 _ (List.mem_of_getElem? (i := 1) rfl)) rfl rfl dX6_numberOf_14 ?_
        refine lv_iload_n hx_ hb_ dX6_numberOf_17 rfl (lv_at hl 2 rfl) ?_
        refine si_const S dX6_numberOf_18 ?_
        refine sk_VP E hV (As := [.int (sI i), .int (sI 4)]) (rest := []) (kTg l_ G b_ M N (a + 1) 7 (f 568) 70 (tvS f) i 4 (cod (f i)) ((hst).2.1) (by omega) (by omega) (tvS_4 f i)) (cwV 2 S.2.2.2.2 gX6_numberOf_X8_get rfl rfl rfl (by decide +kernel) ⟨Nat.le_of_ble_eq_true rfl, Nat.le_of_ble_eq_true rfl⟩) (ci := 6) ((hst).2.1).1 rfl rfl rfl hl.1 (Nat.le_of_ble_eq_true rfl) dX6_numberOf_19 (c1 := 0) (s1 := 0) ⟨⟨rfl, rfl⟩, by decide, by decide⟩ (fun H locs hV => ?_)
        refine lv_iload_n hx_ hb_ dX6_numberOf_22 rfl (lv_at hl 1 rfl) ?_
        refine sb_ne (tgt := 28) S dX6_numberOf_23 (by decide) (by have q1 := cod_r (v := f i) (by have := sOk_S hok i (by omega) (by omega); omega); omega) (fun h23 => ?_) (fun h23 => ?_)
        · refine si_inc (lv' := [(2, .int (sI (i + 1))), (0, .ref a), (1, .int (sI (cod c)))]) S dX6_numberOf_28 hl (k := 2) rfl (by decide) rfl (fun ls hl => ?_)
          refine lv_goto (tgt := 2) hx_ hb_ dX6_numberOf_31 (by decide) ?_
          exact ih2 (i + 1) _ _ _ (by omega) (by omega) (idx_st hn (fun q => h23 (by rw [q]))) hV (lv_sub hl [1, 2, 0] rfl)
        · refine lv_iload_n hx_ hb_ dX6_numberOf_26 rfl (lv_at hl 2 rfl) ?_
          exact sr_i E hQ dX6_numberOf_27 ⟨Nat.le_of_ble_eq_true rfl, Nat.le_of_ble_eq_true rfl⟩ hV (⟨(idx_some (P := fun q => f q = c) ⟨by omega, by omega⟩ ((cod_inj (by have := sOk_S hok i (by omega) (by omega); omega) hc).mp h23) hn).symm, rfl, rfl⟩)
  exact L2 _ 0 _ _ _ (Nat.lt_succ_self _) (by omega) (fun k a b => by omega) hV (lv_sub hl [1, 2, 0] rfl)

abbrev rmX6_placeOf : Room := { frames := 2, cells := 0, slots := 0, locals := 63 }
set_option maxHeartbeats 4000000 in
set_option maxRecDepth 100000 in
theorem kX6_placeOf (l_ : Launch) (G : sG) (b_ : Nat) (M : sM) (N : Nat) (a : Nat) (f : sF) (s : Int) (hst : stC G M a f) (hok : sOk f) (hs : 0 ≤ s ∧ s < f 568) : cP l_ yX6_placeOf wsX6_placeOf rmX6_placeOf G b_ M N [.ref a, .int (sI s)] (isum (f 568) (plT f s)) := by
  refine sE.ofI (cc := cX6_placeOf) (nL := 4) (ret := (some .int)) (by decide) rfl (Nat.le_of_ble_eq_true rfl) ?_
  intro p_ e_ s_ m_ args_ below_ meth_ c_ ls Q hQ E hl
  have E : sE p_ l_ e_ rmX6_placeOf s_ m_ args_ below_ meth_ c_ cX6_placeOf 4 wsX6_placeOf RX6 "placeOf" (some .int) G b_ M N := E
  have S := E.1
  have hx_ := S.1
  have hb_ := S.2.1
  have hK := E.2.2.2.2.1
  have hV := E.2.2.2.2.2.2
  have hl : lv_has ls 4 [(0, .ref a), (1, .int (sI s))] := hl
  have inX6_ : ∀ w ∈ wsX60, w ∈ wsX6_placeOf := fun _ h => List.mem_cons_of_mem _ (List.mem_append_left _ (List.mem_append_right _ h))
  have inX8_ : ∀ w ∈ wsX80, w ∈ wsX6_placeOf := fun _ h => List.mem_cons_of_mem _ (List.mem_append_right _ h)
  have kn0 := sOk_N hok
  have hs1 := sOk_S hok s hs.1 hs.2
  have hcr := cod_r (v := f s) (by omega)
  refine si_const S dX6_placeOf_0 ?_
  refine lv_istore_n (lv' := [(2, .int (sI 0)), (0, .ref a), (1, .int (sI s))]) hx_ hb_ dX6_placeOf_1 rfl hl (by decide) rfl (fun ls hl => ?_)
  refine si_const S dX6_placeOf_2 ?_
  refine lv_istore_n (lv' := [(3, .int (sI 0)), (2, .int (sI 0)), (0, .ref a), (1, .int (sI s))]) hx_ hb_ dX6_placeOf_3 rfl hl (by decide) rfl (fun ls hl => ?_)
  have L4 : ∀ (fuel : Nat) (n : Int) (i : Int)  (H : Heap) (locs : List Loc) (ls : Array Slot), ((f 568 - i).toNat) < fuel → (0 ≤ i ∧ i ≤ f 568) → (n = isum i (plT f s)) → (0 ≤ n ∧ n ≤ i) → sV G b_ M N s_ H locs → lv_has ls 4 [(0, .ref a), (1, .int (sI s)), (2, .int (sI n)), (3, .int (sI i))] → W p_ l_ e_ rmX6_placeOf s_ m_ args_ below_ meth_ c_ H locs 0 0 Q (F0 m_ 4 ls []) := by
    intro fuel
    induction fuel with
    | zero => intro n i H locs ls hmu; exact absurd hmu (Nat.not_lt_zero _)
    | succ fuel ih4 =>
      intro n i H locs ls hmu4 hv4_0 hn hv4_2  hV hl
      refine lv_iload_n hx_ hb_ dX6_placeOf_4 rfl (lv_at hl 3 rfl) ?_
      refine lv_aload_n hx_ hb_ dX6_placeOf_5 rfl (lv_at hl 0 rfl) ?_
      refine sc_get (ci := 4) (C := RX6) (T := TX6) (n := 8) S hK hV inX6_ (hst).1 rfl 0 (by decide) (S.2.2.2.2 _ (List.mem_of_getElem? (i := 1) rfl)) rfl rfl dX6_placeOf_6 ?_
      refine sk_VP E hV (As := []) (rest := [.int (sI i)]) (kTs l_ G b_ M N (a + 1) 7 (f 568) 70 (tvS f) ((hst).2.1)) (cwV 0 S.2.2.2.2 gX6_placeOf_X8_size rfl rfl rfl (by decide +kernel) ⟨Nat.le_of_ble_eq_true rfl, Nat.le_of_ble_eq_true rfl⟩) (ci := 6) ((hst).2.1).1 rfl rfl rfl hl.1 (Nat.le_of_ble_eq_true rfl) dX6_placeOf_9 (c1 := 0) (s1 := 0) ⟨⟨rfl, rfl⟩, by decide, by decide⟩ (fun H locs hV => ?_)
      refine sb_ge (tgt := 45) S dX6_placeOf_12 (by decide) (by omega) (fun c1 => ?_) (fun c1 => ?_)
      · refine lv_iload_n hx_ hb_ dX6_placeOf_45 rfl (lv_at hl 2 rfl) ?_
        exact sr_i E hQ dX6_placeOf_46 ⟨Nat.le_of_ble_eq_true rfl, Nat.le_of_ble_eq_true rfl⟩ hV (⟨by rw [hn, show i = f 568 by omega], rfl, rfl⟩)
      · refine lv_aload_n hx_ hb_ dX6_placeOf_15 rfl (lv_at hl 0 rfl) ?_
        refine sc_get (ci := 4) (C := RX6) (T := TX6) (n := 8) S hK hV inX6_ (hst).1 rfl 0 (by decide) (S.2.2.2.2 _ (List.mem_of_getElem? (i := 1) rfl)) rfl rfl dX6_placeOf_16 ?_
        refine lv_iload_n hx_ hb_ dX6_placeOf_19 rfl (lv_at hl 3 rfl) ?_
        refine si_const S dX6_placeOf_20 ?_
        refine sk_VP E hV (As := [.int (sI i), .int (sI 4)]) (rest := []) (kTg l_ G b_ M N (a + 1) 7 (f 568) 70 (tvS f) i 4 (cod (f i)) ((hst).2.1) (by omega) (by omega) (tvS_4 f i)) (cwV 2 S.2.2.2.2 gX6_placeOf_X8_get rfl rfl rfl (by decide +kernel) ⟨Nat.le_of_ble_eq_true rfl, Nat.le_of_ble_eq_true rfl⟩) (ci := 6) ((hst).2.1).1 rfl rfl rfl hl.1 (Nat.le_of_ble_eq_true rfl) dX6_placeOf_21 (c1 := 0) (s1 := 0) ⟨⟨rfl, rfl⟩, by decide, by decide⟩ (fun H locs hV => ?_)
        refine lv_aload_n hx_ hb_ dX6_placeOf_24 rfl (lv_at hl 0 rfl) ?_
        refine sc_get (ci := 4) (C := RX6) (T := TX6) (n := 8) S hK hV inX6_ (hst).1 rfl 0 (by decide) (S.2.2.2.2 _ (List.mem_of_getElem? (i := 1) rfl)) rfl rfl dX6_placeOf_25 ?_
        refine lv_iload_n hx_ hb_ dX6_placeOf_28 rfl (lv_at hl 1 rfl) ?_
        refine si_const S dX6_placeOf_29 ?_
        refine sk_VP E hV (As := [.int (sI s), .int (sI 4)]) (rest := [.int (sI (cod (f i)))]) (kTg l_ G b_ M N (a + 1) 7 (f 568) 70 (tvS f) s 4 (cod (f s)) ((hst).2.1) (by omega) (by omega) (tvS_4 f s)) (cwV 2 S.2.2.2.2 gX6_placeOf_X8_get rfl rfl rfl (by decide +kernel) ⟨Nat.le_of_ble_eq_true rfl, Nat.le_of_ble_eq_true rfl⟩) (ci := 6) ((hst).2.1).1 rfl rfl rfl hl.1 (Nat.le_of_ble_eq_true rfl) dX6_placeOf_30 (c1 := 0) (s1 := 0) ⟨⟨rfl, rfl⟩, by decide, by decide⟩ (fun H locs hV => ?_)
        have hi1 := sOk_S hok i (by omega) (by omega)
        have hcr2 := cod_r (v := f i) (by omega)
        have hlt := cod_lti (v := f i) (w := f s) (by omega) (by omega)
        refine sb_ge (tgt := 39) S dX6_placeOf_33 (by decide) (by omega) (fun c2 => ?_) (fun c2 => ?_)
        · refine si_inc (lv' := [(3, .int (sI (i + 1))), (0, .ref a), (1, .int (sI s)), (2, .int (sI n))]) S dX6_placeOf_39 hl (k := 3) rfl (by decide) rfl (fun ls hl => ?_)
          refine lv_goto (tgt := 4) hx_ hb_ dX6_placeOf_42 (by decide) ?_
          exact ih4 n (i + 1) _ _ _ (by omega) (by omega) (by have e := isum_s (plT f s) (show 0 ≤ i by omega); have e2 : plT f s i = if f i < f s then 1 else 0 := rfl; split at e2 <;> omega) (by omega) hV (lv_sub hl [1, 2, 3, 0] rfl)
        · refine si_inc (lv' := [(2, .int (sI (n + 1))), (0, .ref a), (1, .int (sI s)), (3, .int (sI i))]) S dX6_placeOf_36 hl (k := 2) rfl (by decide) rfl (fun ls hl => ?_)
          refine si_inc (lv' := [(3, .int (sI (i + 1))), (2, .int (sI (n + 1))), (0, .ref a), (1, .int (sI s))]) S dX6_placeOf_39 hl (k := 3) rfl (by decide) rfl (fun ls hl => ?_)
          refine lv_goto (tgt := 4) hx_ hb_ dX6_placeOf_42 (by decide) ?_
          exact ih4 (n + 1) (i + 1) _ _ _ (by omega) (by omega) (by have e := isum_s (plT f s) (show 0 ≤ i by omega); have e2 : plT f s i = if f i < f s then 1 else 0 := rfl; split at e2 <;> omega) (by omega) hV (lv_sub hl [2, 3, 1, 0] rfl)
  exact L4 _ 0 0 _ _ _ (Nat.lt_succ_self _) (by omega) (rfl) (by omega) hV (lv_sub hl [2, 3, 1, 0] rfl)

abbrev rmX6_areParted : Room := { frames := 2, cells := 0, slots := 0, locals := 63 }
set_option maxHeartbeats 4000000 in
set_option maxRecDepth 100000 in
theorem kX6_areParted (l_ : Launch) (G : sG) (b_ : Nat) (M : sM) (N : Nat) (a : Nat) (f : sF) (i j : Int) (hst : stC G M a f) (hok : sOk f) (hi : 0 ≤ i ∧ i < 6 ∧ 0 ≤ j ∧ j < 6) : cP l_ yX6_areParted wsX6_areParted rmX6_areParted G b_ M N [.ref a, .int (sI i), .int (sI j)] (bI (tb (f (158 + i)) j)) := by
  refine sE.ofI (cc := cX6_areParted) (nL := 3) (ret := (some .boolean)) (by decide) rfl (Nat.le_of_ble_eq_true rfl) ?_
  intro p_ e_ s_ m_ args_ below_ meth_ c_ ls Q hQ E hl
  have E : sE p_ l_ e_ rmX6_areParted s_ m_ args_ below_ meth_ c_ cX6_areParted 3 wsX6_areParted RX6 "areParted" (some .boolean) G b_ M N := E
  have S := E.1
  have hx_ := S.1
  have hb_ := S.2.1
  have hK := E.2.2.2.2.1
  have hV := E.2.2.2.2.2.2
  have hl : lv_has ls 3 [(0, .ref a), (1, .int (sI i)), (2, .int (sI j))] := hl
  have inX6_ : ∀ w ∈ wsX60, w ∈ wsX6_areParted := fun _ h => List.mem_cons_of_mem _ (List.mem_append_left _ (List.mem_append_right _ h))
  have inX8_ : ∀ w ∈ wsX80, w ∈ wsX6_areParted := fun _ h => List.mem_cons_of_mem _ (List.mem_append_right _ h)
  refine lv_aload_n hx_ hb_ dX6_areParted_0 rfl (lv_at hl 0 rfl) ?_
  refine sc_get (ci := 4) (C := RX6) (T := TX6) (n := 8) S hK hV inX6_ (hst).1 rfl 3 (by decide) (S.2.2.2.2 _ (List.mem_of_getElem? (i := 1) rfl)) rfl rfl dX6_areParted_1 ?_
  refine lv_iload_n hx_ hb_ dX6_areParted_4 rfl (lv_at hl 1 rfl) ?_
  refine lv_iload_n hx_ hb_ dX6_areParted_5 rfl (lv_at hl 2 rfl) ?_
  refine sk_VP E hV (As := [.int (sI i), .int (sI j)]) (rest := []) (kTg l_ G b_ M N (a + 7) 6 6 36 (tvP f) i j (bI (tb (f (158 + i)) j)) ((hst).2.2.2.2.1) (by omega) (by omega) (rfl)) (cwV 2 S.2.2.2.2 gX6_areParted_X8_get rfl rfl rfl (by decide +kernel) ⟨Nat.le_of_ble_eq_true rfl, Nat.le_of_ble_eq_true rfl⟩) (ci := 6) ((hst).2.2.2.2.1).1 rfl rfl rfl hl.1 (Nat.le_of_ble_eq_true rfl) dX6_areParted_6 (c1 := 0) (s1 := 0) ⟨⟨rfl, rfl⟩, by decide, by decide⟩ (fun H locs hV => ?_)
  refine sq_eq (tgt := 16) S dX6_areParted_9 (by decide) (fun c1 => ?_) (fun c1 => ?_)
  · refine si_const S dX6_areParted_16 ?_
    exact sr_z E hQ (Or.inl rfl) dX6_areParted_17 ⟨Nat.le_of_ble_eq_true rfl, Nat.le_of_ble_eq_true rfl⟩ hV (⟨(bI_f (by first | exact c2 | assumption)).symm, rfl, rfl⟩)
  · refine si_const S dX6_areParted_12 ?_
    refine lv_goto (tgt := 17) hx_ hb_ dX6_areParted_13 (by decide) ?_
    exact sr_z E hQ (Or.inr rfl) dX6_areParted_17 ⟨Nat.le_of_ble_eq_true rfl, Nat.le_of_ble_eq_true rfl⟩ hV (⟨(bI_t (by first | exact c2 | assumption)).symm, rfl, rfl⟩)

abbrev rmX6_areInOneDrawer : Room := { frames := 2, cells := 0, slots := 0, locals := 63 }
set_option maxHeartbeats 4000000 in
set_option maxRecDepth 100000 in
theorem kX6_areInOneDrawer (l_ : Launch) (G : sG) (b_ : Nat) (M : sM) (N : Nat) (a : Nat) (f : sF) (s o : Int) (hst : stC G M a f) (hok : sOk f) (hs : 0 ≤ s ∧ s < f 568 ∧ 0 ≤ o ∧ o < f 568) : cP l_ yX6_areInOneDrawer wsX6_areInOneDrawer rmX6_areInOneDrawer G b_ M N [.ref a, .int (sI s), .int (sI o)] (bI (inO f s o)) := by
  refine sE.ofI (cc := cX6_areInOneDrawer) (nL := 4) (ret := (some .boolean)) (by decide) rfl (Nat.le_of_ble_eq_true rfl) ?_
  intro p_ e_ s_ m_ args_ below_ meth_ c_ ls Q hQ E hl
  have E : sE p_ l_ e_ rmX6_areInOneDrawer s_ m_ args_ below_ meth_ c_ cX6_areInOneDrawer 4 wsX6_areInOneDrawer RX6 "areInOneDrawer" (some .boolean) G b_ M N := E
  have S := E.1
  have hx_ := S.1
  have hb_ := S.2.1
  have hK := E.2.2.2.2.1
  have hV := E.2.2.2.2.2.2
  have hl : lv_has ls 4 [(0, .ref a), (1, .int (sI s)), (2, .int (sI o))] := hl
  have inX6_ : ∀ w ∈ wsX60, w ∈ wsX6_areInOneDrawer := fun _ h => List.mem_cons_of_mem _ (List.mem_append_left _ (List.mem_append_right _ h))
  have inX8_ : ∀ w ∈ wsX80, w ∈ wsX6_areInOneDrawer := fun _ h => List.mem_cons_of_mem _ (List.mem_append_right _ h)
  have kn0 := sOk_N hok
  refine lv_aload_n hx_ hb_ dX6_areInOneDrawer_0 rfl (lv_at hl 0 rfl) ?_
  refine sc_get (ci := 4) (C := RX6) (T := TX6) (n := 8) S hK hV inX6_ (hst).1 rfl 0 (by decide) (S.2.2.2.2 _ (List.mem_of_getElem? (i := 1) rfl)) rfl rfl dX6_areInOneDrawer_1 ?_
  refine lv_iload_n hx_ hb_ dX6_areInOneDrawer_4 rfl (lv_at hl 1 rfl) ?_
  refine si_const S dX6_areInOneDrawer_5 ?_
  refine sk_VP E hV (As := [.int (sI s), .int (sI 5)]) (rest := []) (kTg l_ G b_ M N (a + 1) 7 (f 568) 70 (tvS f) s 5 (f (50 + s)) ((hst).2.1) (by omega) (by omega) (tvS_5 f s)) (cwV 2 S.2.2.2.2 gX6_areInOneDrawer_X8_get rfl rfl rfl (by decide +kernel) ⟨Nat.le_of_ble_eq_true rfl, Nat.le_of_ble_eq_true rfl⟩) (ci := 6) ((hst).2.1).1 rfl rfl rfl hl.1 (Nat.le_of_ble_eq_true rfl) dX6_areInOneDrawer_6 (c1 := 0) (s1 := 0) ⟨⟨rfl, rfl⟩, by decide, by decide⟩ (fun H locs hV => ?_)
  have kn1 : -1 ≤ f (50 + s) ∧ f (50 + s) ≤ 3 := (sOk_S hok s (by omega) (by omega)).2.2.2.2.2.1
  refine lv_istore_n (lv' := [(3, .int (sI (f (50 + s)))), (0, .ref a), (1, .int (sI s)), (2, .int (sI o))]) hx_ hb_ dX6_areInOneDrawer_9 rfl hl (by decide) rfl (fun ls hl => ?_)
  refine lv_iload_n hx_ hb_ dX6_areInOneDrawer_10 rfl (lv_at hl 2 rfl) ?_
  refine lv_iload_n hx_ hb_ dX6_areInOneDrawer_11 rfl (lv_at hl 3 rfl) ?_
  refine sb_eq (tgt := 37) S dX6_areInOneDrawer_12 (by decide) (by omega) (fun c2 => ?_) (fun c2 => ?_)
  · refine si_const S dX6_areInOneDrawer_37 ?_
    exact sr_z E hQ (Or.inl rfl) dX6_areInOneDrawer_38 ⟨Nat.le_of_ble_eq_true rfl, Nat.le_of_ble_eq_true rfl⟩ hV (⟨(bI_f (by unfold inO; omega)).symm, rfl, rfl⟩)
  · refine lv_iload_n hx_ hb_ dX6_areInOneDrawer_15 rfl (lv_at hl 0 rfl) ?_
    refine si_const S dX6_areInOneDrawer_16 ?_
    refine sb_eq (tgt := 37) S dX6_areInOneDrawer_17 (by decide) (by omega) (fun c3 => ?_) (fun c3 => ?_)
    · refine si_const S dX6_areInOneDrawer_37 ?_
      exact sr_z E hQ (Or.inl rfl) dX6_areInOneDrawer_38 ⟨Nat.le_of_ble_eq_true rfl, Nat.le_of_ble_eq_true rfl⟩ hV (⟨(bI_f (by unfold inO; omega)).symm, rfl, rfl⟩)
    · refine lv_iload_n hx_ hb_ dX6_areInOneDrawer_20 rfl (lv_at hl 0 rfl) ?_
      refine lv_aload_n hx_ hb_ dX6_areInOneDrawer_21 rfl (lv_at hl 1 rfl) ?_
      refine sc_get (ci := 4) (C := RX6) (T := TX6) (n := 8) S hK hV inX6_ (hst).1 rfl 0 (by decide) (S.2.2.2.2 _ (List.mem_of_getElem? (i := 1) rfl)) rfl rfl dX6_areInOneDrawer_22 ?_
      refine lv_iload_n hx_ hb_ dX6_areInOneDrawer_25 rfl (lv_at hl 3 rfl) ?_
      refine si_const S dX6_areInOneDrawer_26 ?_
      refine sk_VP E hV (As := [.int (sI o), .int (sI 5)]) (rest := [.int (sI (f (50 + s)))]) (kTg l_ G b_ M N (a + 1) 7 (f 568) 70 (tvS f) o 5 (f (50 + o)) ((hst).2.1) (by omega) (by omega) (tvS_5 f o)) (cwV 2 S.2.2.2.2 gX6_areInOneDrawer_X8_get rfl rfl rfl (by decide +kernel) ⟨Nat.le_of_ble_eq_true rfl, Nat.le_of_ble_eq_true rfl⟩) (ci := 6) ((hst).2.1).1 rfl rfl rfl hl.1 (Nat.le_of_ble_eq_true rfl) dX6_areInOneDrawer_27 (c1 := 0) (s1 := 0) ⟨⟨rfl, rfl⟩, by decide, by decide⟩ (fun H locs hV => ?_)
      have kn4 : -1 ≤ f (50 + o) ∧ f (50 + o) ≤ 3 := (sOk_S hok o (by omega) (by omega)).2.2.2.2.2.1
      refine sb_ne (tgt := 37) S dX6_areInOneDrawer_30 (by decide) (by omega) (fun c5 => ?_) (fun c5 => ?_)
      · refine si_const S dX6_areInOneDrawer_37 ?_
        exact sr_z E hQ (Or.inl rfl) dX6_areInOneDrawer_38 ⟨Nat.le_of_ble_eq_true rfl, Nat.le_of_ble_eq_true rfl⟩ hV (⟨(bI_f (by unfold inO; omega)).symm, rfl, rfl⟩)
      · refine si_const S dX6_areInOneDrawer_33 ?_
        refine lv_goto (tgt := 38) hx_ hb_ dX6_areInOneDrawer_34 (by decide) ?_
        exact sr_z E hQ (Or.inr rfl) dX6_areInOneDrawer_38 ⟨Nat.le_of_ble_eq_true rfl, Nat.le_of_ble_eq_true rfl⟩ hV (⟨(bI_t (by unfold inO; omega)).symm, rfl, rfl⟩)

abbrev rmX6_lieTogether : Room := { frames := 3, cells := 0, slots := 0, locals := 86 }
set_option maxHeartbeats 4000000 in
set_option maxRecDepth 100000 in
theorem kX6_lieTogether (l_ : Launch) (G : sG) (b_ : Nat) (M : sM) (N : Nat) (a : Nat) (f : sF) (p q : Int) (hst : stC G M a f) (hok : sOk f) (hp : sR p ∧ sR q) : cP l_ yX6_lieTogether wsX6_lieTogether rmX6_lieTogether G b_ M N [.ref a, .int (sI p), .int (sI q)] (bI (lieP f p q)) := by
  refine sE.ofI (cc := cX6_lieTogether) (nL := 5) (ret := (some .boolean)) (by decide) rfl (Nat.le_of_ble_eq_true rfl) ?_
  intro p_ e_ s_ m_ args_ below_ meth_ c_ ls Q hQ E hl
  have E : sE p_ l_ e_ rmX6_lieTogether s_ m_ args_ below_ meth_ c_ cX6_lieTogether 5 wsX6_lieTogether RX6 "lieTogether" (some .boolean) G b_ M N := E
  have S := E.1
  have hx_ := S.1
  have hb_ := S.2.1
  have hK := E.2.2.2.2.1
  have hV := E.2.2.2.2.2.2
  have hl : lv_has ls 5 [(0, .ref a), (1, .int (sI p)), (2, .int (sI q))] := hl
  have inX6_ : ∀ w ∈ wsX60, w ∈ wsX6_lieTogether := fun _ h => List.mem_cons_of_mem _ (List.mem_append_left _ (List.mem_append_right _ h))
  have inX8_ : ∀ w ∈ wsX80, w ∈ wsX6_lieTogether := fun _ h => List.mem_cons_of_mem _ (List.mem_append_right _ h)
  have kn0 := sOk_N hok
  refine si_const S dX6_lieTogether_0 ?_
  refine lv_istore_n (lv' := [(3, .int (sI 0)), (0, .ref a), (1, .int (sI p)), (2, .int (sI q))]) hx_ hb_ dX6_lieTogether_1 rfl hl (by decide) rfl (fun ls hl => ?_)
  have L2 : ∀ (fuel : Nat) (i : Int)  (H : Heap) (locs : List Loc) (ls : Array Slot), ((f 568 - i).toNat) < fuel → (0 ≤ i ∧ i ≤ f 568) → (∀ k, 0 ≤ k → k < i → ¬ ∃ o, (0 ≤ o ∧ o < f 568) ∧ inO f k o ∧ f (10 + k) = p ∧ f (10 + o) = q) → sV G b_ M N s_ H locs → lv_has ls 5 [(0, .ref a), (1, .int (sI p)), (2, .int (sI q)), (3, .int (sI i))] → W p_ l_ e_ rmX6_lieTogether s_ m_ args_ below_ meth_ c_ H locs 0 0 Q (F0 m_ 2 ls []) := by
    intro fuel
    induction fuel with
    | zero => intro i H locs ls hmu; exact absurd hmu (Nat.not_lt_zero _)
    | succ fuel ih2 =>
      intro i H locs ls hmu2 hv2_0 hn  hV hl
      refine lv_iload_n hx_ hb_ dX6_lieTogether_2 rfl (lv_at hl 3 rfl) ?_
      refine lv_aload_n hx_ hb_ dX6_lieTogether_3 rfl (lv_at hl 0 rfl) ?_
      refine sc_get (ci := 4) (C := RX6) (T := TX6) (n := 8) S hK hV inX6_ (hst).1 rfl 0 (by decide) (S.2.2.2.2 _ (List.mem_of_getElem? (i := 1) rfl)) rfl rfl dX6_lieTogether_4 ?_
      refine sk_VP E hV (As := []) (rest := [.int (sI i)]) (kTs l_ G b_ M N (a + 1) 7 (f 568) 70 (tvS f) ((hst).2.1)) (cwV 0 S.2.2.2.2 gX6_lieTogether_X8_size rfl rfl rfl (by decide +kernel) ⟨Nat.le_of_ble_eq_true rfl, Nat.le_of_ble_eq_true rfl⟩) (ci := 6) ((hst).2.1).1 rfl rfl rfl hl.1 (Nat.le_of_ble_eq_true rfl) dX6_lieTogether_7 (c1 := 0) (s1 := 0) ⟨⟨rfl, rfl⟩, by decide, by decide⟩ (fun H locs hV => ?_)
      refine sb_ge (tgt := 79) S dX6_lieTogether_10 (by decide) (by omega) (fun c1 => ?_) (fun c1 => ?_)
      · refine si_const S dX6_lieTogether_79 ?_
        exact sr_z E hQ (Or.inl rfl) dX6_lieTogether_80 ⟨Nat.le_of_ble_eq_true rfl, Nat.le_of_ble_eq_true rfl⟩ hV (⟨(bI_f (fun h => by obtain ⟨s1, o1, h1, h2, h3, h4⟩ := h; exact hn s1 h1.1 (by omega) ⟨o1, ⟨by omega, by omega⟩, h2, h3, h4⟩)).symm, rfl, rfl⟩)
      · refine si_const S dX6_lieTogether_13 ?_
        refine lv_istore (lv' := [(4, .int (sI 0)), (0, .ref a), (1, .int (sI p)), (2, .int (sI q)), (3, .int (sI i))]) hx_ hb_ dX6_lieTogether_14 hl (by decide) rfl (fun ls hl => ?_)
        have L16 : ∀ (fuel : Nat) (j : Int)  (H : Heap) (locs : List Loc) (ls : Array Slot), ((f 568 - j).toNat) < fuel → (0 ≤ j ∧ j ≤ f 568) → (∀ k, 0 ≤ k → k < j → ¬ (inO f i k ∧ f (10 + i) = p ∧ f (10 + k) = q)) → sV G b_ M N s_ H locs → lv_has ls 5 [(0, .ref a), (1, .int (sI p)), (2, .int (sI q)), (3, .int (sI i)), (4, .int (sI j))] → W p_ l_ e_ rmX6_lieTogether s_ m_ args_ below_ meth_ c_ H locs 0 0 Q (F0 m_ 16 ls []) := by
          intro fuel
          induction fuel with
          | zero => intro j H locs ls hmu; exact absurd hmu (Nat.not_lt_zero _)
          | succ fuel ih16 =>
            intro j H locs ls hmu16 hv16_0 hn2  hV hl
            refine lv_iload hx_ hb_ dX6_lieTogether_16 (lv_at hl 4 rfl) ?_
            refine lv_aload_n hx_ hb_ dX6_lieTogether_18 rfl (lv_at hl 0 rfl) ?_
            refine sc_get (ci := 4) (C := RX6) (T := TX6) (n := 8) S hK hV inX6_ (hst).1 rfl 0 (by decide) (S.2.2.2.2 _ (List.mem_of_getElem? (i := 1) rfl)) rfl rfl dX6_lieTogether_19 ?_
            refine sk_VP E hV (As := []) (rest := [.int (sI j)]) (kTs l_ G b_ M N (a + 1) 7 (f 568) 70 (tvS f) ((hst).2.1)) (cwV 0 S.2.2.2.2 gX6_lieTogether_X8_size rfl rfl rfl (by decide +kernel) ⟨Nat.le_of_ble_eq_true rfl, Nat.le_of_ble_eq_true rfl⟩) (ci := 6) ((hst).2.1).1 rfl rfl rfl hl.1 (Nat.le_of_ble_eq_true rfl) dX6_lieTogether_22 (c1 := 0) (s1 := 0) ⟨⟨rfl, rfl⟩, by decide, by decide⟩ (fun H locs hV => ?_)
            refine sb_ge (tgt := 73) S dX6_lieTogether_25 (by decide) (by omega) (fun c2 => ?_) (fun c2 => ?_)
            · refine si_inc (lv' := [(3, .int (sI (i + 1))), (0, .ref a), (1, .int (sI p)), (2, .int (sI q)), (4, .int (sI j))]) S dX6_lieTogether_73 hl (k := 3) rfl (by decide) rfl (fun ls hl => ?_)
              refine lv_goto (tgt := 2) hx_ hb_ dX6_lieTogether_76 (by decide) ?_
              exact ih2 (i + 1) _ _ _ (by omega) (by omega) (idx_st hn (fun h => by obtain ⟨o, h1, h2⟩ := h; exact hn2 o h1.1 (by omega) h2)) hV (lv_sub hl [1, 2, 3, 0] rfl)
            · refine lv_aload_n hx_ hb_ dX6_lieTogether_28 rfl (lv_at hl 0 rfl) ?_
              refine lv_iload_n hx_ hb_ dX6_lieTogether_29 rfl (lv_at hl 3 rfl) ?_
              refine lv_iload hx_ hb_ dX6_lieTogether_30 (lv_at hl 4 rfl) ?_
              refine sk_VP E hV (As := [.int (sI i), .int (sI j)]) (rest := []) (kX6_areInOneDrawer l_ G b_ M N a f i j hst (by omega) (by omega)) (cwV 2 S.2.2.2.2 gX6_lieTogether_X6_areInOneDrawer rfl rfl rfl (by decide +kernel) ⟨Nat.le_of_ble_eq_true rfl, Nat.le_of_ble_eq_true rfl⟩) (ci := 4) (hst).1 rfl rfl rfl hl.1 (Nat.le_of_ble_eq_true rfl) dX6_lieTogether_32 (c1 := 0) (s1 := 0) ⟨⟨rfl, rfl⟩, by decide, by decide⟩ (fun H locs hV => ?_)
              refine sq_eq (tgt := 67) S dX6_lieTogether_35 (by decide) (fun h35 => ?_) (fun h35 => ?_)
              · refine si_inc (lv' := [(4, .int (sI (j + 1))), (0, .ref a), (1, .int (sI p)), (2, .int (sI q)), (3, .int (sI i))]) S dX6_lieTogether_67 hl (k := 4) rfl (by decide) rfl (fun ls hl => ?_)
                refine lv_goto (tgt := 16) hx_ hb_ dX6_lieTogether_70 (by decide) ?_
                exact ih16 (j + 1) _ _ _ (by omega) (by omega) (idx_st hn2 (fun h => by obtain ⟨h1, h2, h3⟩ := h; first | exact absurd h1 h35 | exact absurd h2 (by omega) | exact absurd h3 (by omega))) hV (lv_sub hl [1, 2, 3, 4, 0] rfl)
              · refine lv_aload_n hx_ hb_ dX6_lieTogether_38 rfl (lv_at hl 0 rfl) ?_
                refine sc_get (ci := 4) (C := RX6) (T := TX6) (n := 8) S hK hV inX6_ (hst).1 rfl 0 (by decide) (S.2.2.2.2 _ (List.mem_of_getElem? (i := 1) rfl)) rfl rfl dX6_lieTogether_39 ?_
                refine lv_iload_n hx_ hb_ dX6_lieTogether_42 rfl (lv_at hl 3 rfl) ?_
                refine si_const S dX6_lieTogether_43 ?_
                refine sk_VP E hV (As := [.int (sI i), .int (sI 0)]) (rest := []) (kTg l_ G b_ M N (a + 1) 7 (f 568) 70 (tvS f) i 0 (f (10 + i)) ((hst).2.1) (by omega) (by omega) (tvS_0 f i)) (cwV 2 S.2.2.2.2 gX6_lieTogether_X8_get rfl rfl rfl (by decide +kernel) ⟨Nat.le_of_ble_eq_true rfl, Nat.le_of_ble_eq_true rfl⟩) (ci := 6) ((hst).2.1).1 rfl rfl rfl hl.1 (Nat.le_of_ble_eq_true rfl) dX6_lieTogether_44 (c1 := 0) (s1 := 0) ⟨⟨rfl, rfl⟩, by decide, by decide⟩ (fun H locs hV => ?_)
                have kn3 : 0 ≤ f (10 + i) ∧ f (10 + i) ≤ 5 := (sOk_S hok i (by omega) (by omega)).2.1
                refine lv_iload_n hx_ hb_ dX6_lieTogether_47 rfl (lv_at hl 1 rfl) ?_
                refine sb_ne (tgt := 67) S dX6_lieTogether_48 (by decide) (by omega) (fun c4 => ?_) (fun c4 => ?_)
                · refine si_inc (lv' := [(4, .int (sI (j + 1))), (0, .ref a), (1, .int (sI p)), (2, .int (sI q)), (3, .int (sI i))]) S dX6_lieTogether_67 hl (k := 4) rfl (by decide) rfl (fun ls hl => ?_)
                  refine lv_goto (tgt := 16) hx_ hb_ dX6_lieTogether_70 (by decide) ?_
                  exact ih16 (j + 1) _ _ _ (by omega) (by omega) (idx_st hn2 (fun h => by obtain ⟨h1, h2, h3⟩ := h; first | exact absurd h1 h35 | exact absurd h2 (by omega) | exact absurd h3 (by omega))) hV (lv_sub hl [1, 2, 3, 4, 0] rfl)
                · refine lv_aload_n hx_ hb_ dX6_lieTogether_51 rfl (lv_at hl 0 rfl) ?_
                  refine sc_get (ci := 4) (C := RX6) (T := TX6) (n := 8) S hK hV inX6_ (hst).1 rfl 0 (by decide) (S.2.2.2.2 _ (List.mem_of_getElem? (i := 1) rfl)) rfl rfl dX6_lieTogether_52 ?_
                  refine lv_iload hx_ hb_ dX6_lieTogether_55 (lv_at hl 4 rfl) ?_
                  refine si_const S dX6_lieTogether_57 ?_
                  refine sk_VP E hV (As := [.int (sI j), .int (sI 0)]) (rest := []) (kTg l_ G b_ M N (a + 1) 7 (f 568) 70 (tvS f) j 0 (f (10 + j)) ((hst).2.1) (by omega) (by omega) (tvS_0 f j)) (cwV 2 S.2.2.2.2 gX6_lieTogether_X8_get rfl rfl rfl (by decide +kernel) ⟨Nat.le_of_ble_eq_true rfl, Nat.le_of_ble_eq_true rfl⟩) (ci := 6) ((hst).2.1).1 rfl rfl rfl hl.1 (Nat.le_of_ble_eq_true rfl) dX6_lieTogether_58 (c1 := 0) (s1 := 0) ⟨⟨rfl, rfl⟩, by decide, by decide⟩ (fun H locs hV => ?_)
                  have kn5 : 0 ≤ f (10 + j) ∧ f (10 + j) ≤ 5 := (sOk_S hok j (by omega) (by omega)).2.1
                  refine lv_iload_n hx_ hb_ dX6_lieTogether_61 rfl (lv_at hl 2 rfl) ?_
                  refine sb_ne (tgt := 67) S dX6_lieTogether_62 (by decide) (by omega) (fun c6 => ?_) (fun c6 => ?_)
                  · refine si_inc (lv' := [(4, .int (sI (j + 1))), (0, .ref a), (1, .int (sI p)), (2, .int (sI q)), (3, .int (sI i))]) S dX6_lieTogether_67 hl (k := 4) rfl (by decide) rfl (fun ls hl => ?_)
                    refine lv_goto (tgt := 16) hx_ hb_ dX6_lieTogether_70 (by decide) ?_
                    exact ih16 (j + 1) _ _ _ (by omega) (by omega) (idx_st hn2 (fun h => by obtain ⟨h1, h2, h3⟩ := h; first | exact absurd h1 h35 | exact absurd h2 (by omega) | exact absurd h3 (by omega))) hV (lv_sub hl [1, 2, 3, 4, 0] rfl)
                  · refine si_const S dX6_lieTogether_65 ?_
                    exact sr_z E hQ (Or.inr rfl) dX6_lieTogether_66 ⟨Nat.le_of_ble_eq_true rfl, Nat.le_of_ble_eq_true rfl⟩ hV (⟨(bI_t ⟨i, j, ⟨by omega, by omega, by omega, by omega⟩, h35, by omega, by omega⟩).symm, rfl, rfl⟩)
        exact L16 _ 0 _ _ _ (Nat.lt_succ_self _) (by omega) (fun k a b => by omega) hV (lv_sub hl [1, 2, 3, 4, 0] rfl)
  exact L2 _ 0 _ _ _ (Nat.lt_succ_self _) (by omega) (fun k a b => by omega) hV (lv_sub hl [1, 2, 3, 0] rfl)

abbrev rmX6_whyNot : Room := { frames := 3, cells := 0, slots := 0, locals := 87 }
set_option maxHeartbeats 4000000 in
set_option maxRecDepth 100000 in
theorem kX6_whyNot (l_ : Launch) (G : sG) (b_ : Nat) (M : sM) (N : Nat) (a : Nat) (f : sF) (d : Int) (hst : stC G M a f) (hok : sOk f) (hd : 0 ≤ d ∧ d < 4) : cP l_ yX6_whyNot wsX6_whyNot rmX6_whyNot G b_ M N [.ref a, .int (sI d)] (whyF f d) := by
  refine sE.ofI (cc := cX6_whyNot) (nL := 4) (ret := (some .int)) (by decide) rfl (Nat.le_of_ble_eq_true rfl) ?_
  intro p_ e_ s_ m_ args_ below_ meth_ c_ ls Q hQ E hl
  have E : sE p_ l_ e_ rmX6_whyNot s_ m_ args_ below_ meth_ c_ cX6_whyNot 4 wsX6_whyNot RX6 "whyNot" (some .int) G b_ M N := E
  have S := E.1
  have hx_ := S.1
  have hb_ := S.2.1
  have hK := E.2.2.2.2.1
  have hV := E.2.2.2.2.2.2
  have hl : lv_has ls 4 [(0, .ref a), (1, .int (sI d))] := hl
  have inX6_ : ∀ w ∈ wsX60, w ∈ wsX6_whyNot := fun _ h => List.mem_cons_of_mem _ (List.mem_append_left _ (List.mem_append_right _ h))
  have inX8_ : ∀ w ∈ wsX80, w ∈ wsX6_whyNot := fun _ h => List.mem_cons_of_mem _ (List.mem_append_right _ h)
  have kn0 := sOk_N hok
  have b1 := ly_r hok d 1 (f 568) (by omega) (by omega)
  have b2 := ly_r hok d 2 (f 568) (by omega) (by omega)
  refine lv_aload_n hx_ hb_ dX6_whyNot_0 rfl (lv_at hl 0 rfl) ?_
  refine lv_iload_n hx_ hb_ dX6_whyNot_1 rfl (lv_at hl 1 rfl) ?_
  refine si_const S dX6_whyNot_2 ?_
  refine sk_VP E hV (As := [.int (sI d), .int (sI 1)]) (rest := []) (kX6_sumIn l_ G b_ M N a f d 1 hst (by omega) (by omega) (by omega)) (cwV 2 S.2.2.2.2 gX6_whyNot_X6_sumIn rfl rfl rfl (by decide +kernel) ⟨Nat.le_of_ble_eq_true rfl, Nat.le_of_ble_eq_true rfl⟩) (ci := 4) (hst).1 rfl rfl rfl hl.1 (Nat.le_of_ble_eq_true rfl) dX6_whyNot_3 (c1 := 0) (s1 := 0) ⟨⟨rfl, rfl⟩, by decide, by decide⟩ (fun H locs hV => ?_)
  refine lv_aload_n hx_ hb_ dX6_whyNot_6 rfl (lv_at hl 0 rfl) ?_
  refine sc_get (ci := 4) (C := RX6) (T := TX6) (n := 8) S hK hV inX6_ (hst).1 rfl 2 (by decide) (S.2.2.2.2 _ (List.mem_of_getElem? (i := 1) rfl)) rfl rfl dX6_whyNot_7 ?_
  refine lv_iload_n hx_ hb_ dX6_whyNot_10 rfl (lv_at hl 1 rfl) ?_
  refine si_const S dX6_whyNot_11 ?_
  refine sk_VP E hV (As := [.int (sI d), .int (sI 0)]) (rest := [.int (sI (isum (f 568) (lyT f d 1)))]) (kTg l_ G b_ M N (a + 5) 2 4 8 (tvD f) d 0 (f (150 + d)) ((hst).2.2.2.1) (by omega) (by omega) (tvD_0 f d)) (cwV 2 S.2.2.2.2 gX6_whyNot_X8_get rfl rfl rfl (by decide +kernel) ⟨Nat.le_of_ble_eq_true rfl, Nat.le_of_ble_eq_true rfl⟩) (ci := 6) ((hst).2.2.2.1).1 rfl rfl rfl hl.1 (Nat.le_of_ble_eq_true rfl) dX6_whyNot_12 (c1 := 0) (s1 := 0) ⟨⟨rfl, rfl⟩, by decide, by decide⟩ (fun H locs hV => ?_)
  have kn1 : 0 ≤ f (150 + d) ∧ f (150 + d) ≤ 99 := (sOk_D hok d (by omega) (by omega)).1
  refine sb_le (tgt := 20) S dX6_whyNot_15 (by decide) (by omega) (fun c2 => ?_) (fun c2 => ?_)
  · refine lv_aload_n hx_ hb_ dX6_whyNot_20 rfl (lv_at hl 0 rfl) ?_
    refine lv_iload_n hx_ hb_ dX6_whyNot_21 rfl (lv_at hl 1 rfl) ?_
    refine si_const S dX6_whyNot_22 ?_
    refine sk_VP E hV (As := [.int (sI d), .int (sI 2)]) (rest := []) (kX6_sumIn l_ G b_ M N a f d 2 hst (by omega) (by omega) (by omega)) (cwV 2 S.2.2.2.2 gX6_whyNot_X6_sumIn rfl rfl rfl (by decide +kernel) ⟨Nat.le_of_ble_eq_true rfl, Nat.le_of_ble_eq_true rfl⟩) (ci := 4) (hst).1 rfl rfl rfl hl.1 (Nat.le_of_ble_eq_true rfl) dX6_whyNot_23 (c1 := 0) (s1 := 0) ⟨⟨rfl, rfl⟩, by decide, by decide⟩ (fun H locs hV => ?_)
    refine lv_aload_n hx_ hb_ dX6_whyNot_26 rfl (lv_at hl 0 rfl) ?_
    refine sc_get (ci := 4) (C := RX6) (T := TX6) (n := 8) S hK hV inX6_ (hst).1 rfl 2 (by decide) (S.2.2.2.2 _ (List.mem_of_getElem? (i := 1) rfl)) rfl rfl dX6_whyNot_27 ?_
    refine lv_iload_n hx_ hb_ dX6_whyNot_30 rfl (lv_at hl 1 rfl) ?_
    refine si_const S dX6_whyNot_31 ?_
    refine sk_VP E hV (As := [.int (sI d), .int (sI 1)]) (rest := [.int (sI (isum (f 568) (lyT f d 2)))]) (kTg l_ G b_ M N (a + 5) 2 4 8 (tvD f) d 1 (f (154 + d)) ((hst).2.2.2.1) (by omega) (by omega) (tvD_1 f d)) (cwV 2 S.2.2.2.2 gX6_whyNot_X8_get rfl rfl rfl (by decide +kernel) ⟨Nat.le_of_ble_eq_true rfl, Nat.le_of_ble_eq_true rfl⟩) (ci := 6) ((hst).2.2.2.1).1 rfl rfl rfl hl.1 (Nat.le_of_ble_eq_true rfl) dX6_whyNot_32 (c1 := 0) (s1 := 0) ⟨⟨rfl, rfl⟩, by decide, by decide⟩ (fun H locs hV => ?_)
    have kn3 : 0 ≤ f (154 + d) ∧ f (154 + d) ≤ 999 := (sOk_D hok d (by omega) (by omega)).2
    refine sb_le (tgt := 40) S dX6_whyNot_35 (by decide) (by omega) (fun c4 => ?_) (fun c4 => ?_)
    · refine si_const S dX6_whyNot_40 ?_
      refine lv_istore_n (lv' := [(2, .int (sI 0)), (0, .ref a), (1, .int (sI d))]) hx_ hb_ dX6_whyNot_41 rfl hl (by decide) rfl (fun ls hl => ?_)
      have L42 : ∀ (fuel : Nat) (i : Int)  (H : Heap) (locs : List Loc) (ls : Array Slot), ((f 568 - i).toNat) < fuel → (0 ≤ i ∧ i ≤ f 568) → (∀ k, 0 ≤ k → k < i → ¬ ∃ o, (0 ≤ o ∧ o < k) ∧ f (50 + k) = d ∧ inO f k o ∧ tb (f (158 + f (10 + k))) (f (10 + o))) → sV G b_ M N s_ H locs → lv_has ls 4 [(0, .ref a), (1, .int (sI d)), (2, .int (sI i))] → W p_ l_ e_ rmX6_whyNot s_ m_ args_ below_ meth_ c_ H locs 0 0 Q (F0 m_ 42 ls []) := by
        intro fuel
        induction fuel with
        | zero => intro i H locs ls hmu; exact absurd hmu (Nat.not_lt_zero _)
        | succ fuel ih42 =>
          intro i H locs ls hmu42 hv42_0 hn  hV hl
          refine lv_iload_n hx_ hb_ dX6_whyNot_42 rfl (lv_at hl 2 rfl) ?_
          refine lv_aload_n hx_ hb_ dX6_whyNot_43 rfl (lv_at hl 0 rfl) ?_
          refine sc_get (ci := 4) (C := RX6) (T := TX6) (n := 8) S hK hV inX6_ (hst).1 rfl 0 (by decide) (S.2.2.2.2 _ (List.mem_of_getElem? (i := 2) rfl)) rfl rfl dX6_whyNot_44 ?_
          refine sk_VP E hV (As := []) (rest := [.int (sI i)]) (kTs l_ G b_ M N (a + 1) 7 (f 568) 70 (tvS f) ((hst).2.1)) (cwV 0 S.2.2.2.2 gX6_whyNot_X8_size rfl rfl rfl (by decide +kernel) ⟨Nat.le_of_ble_eq_true rfl, Nat.le_of_ble_eq_true rfl⟩) (ci := 6) ((hst).2.1).1 rfl rfl rfl hl.1 (Nat.le_of_ble_eq_true rfl) dX6_whyNot_47 (c1 := 0) (s1 := 0) ⟨⟨rfl, rfl⟩, by decide, by decide⟩ (fun H locs hV => ?_)
          refine sb_ge (tgt := 121) S dX6_whyNot_50 (by decide) (by omega) (fun c5 => ?_) (fun c5 => ?_)
          · refine si_const S dX6_whyNot_121 ?_
            exact sr_i E hQ dX6_whyNot_122 ⟨Nat.le_of_ble_eq_true rfl, Nat.le_of_ble_eq_true rfl⟩ hV (⟨by unfold whyF; rw [pif_f (by omega), pif_f (by omega), pif_f (fun h => by obtain ⟨s1, o1, h1, h2⟩ := h; exact hn s1 (by omega) (by omega) ⟨o1, ⟨h1.1, h1.2.1⟩, h2⟩)], rfl, rfl⟩)
          · refine si_const S dX6_whyNot_53 ?_
            refine lv_istore_n (lv' := [(3, .int (sI 0)), (0, .ref a), (1, .int (sI d)), (2, .int (sI i))]) hx_ hb_ dX6_whyNot_54 rfl hl (by decide) rfl (fun ls hl => ?_)
            have L55 : ∀ (fuel : Nat) (j : Int)  (H : Heap) (locs : List Loc) (ls : Array Slot), ((i - j).toNat) < fuel → (0 ≤ j ∧ j ≤ i) → (∀ k, 0 ≤ k → k < j → ¬ (f (50 + i) = d ∧ inO f i k ∧ tb (f (158 + f (10 + i))) (f (10 + k)))) → sV G b_ M N s_ H locs → lv_has ls 4 [(0, .ref a), (1, .int (sI d)), (2, .int (sI i)), (3, .int (sI j))] → W p_ l_ e_ rmX6_whyNot s_ m_ args_ below_ meth_ c_ H locs 0 0 Q (F0 m_ 55 ls []) := by
              intro fuel
              induction fuel with
              | zero => intro j H locs ls hmu; exact absurd hmu (Nat.not_lt_zero _)
              | succ fuel ih55 =>
                intro j H locs ls hmu55 hv55_0 hn2  hV hl
                refine lv_iload_n hx_ hb_ dX6_whyNot_55 rfl (lv_at hl 3 rfl) ?_
                refine lv_iload_n hx_ hb_ dX6_whyNot_56 rfl (lv_at hl 2 rfl) ?_
                refine sb_ge (tgt := 115) S dX6_whyNot_57 (by decide) (by omega) (fun c6 => ?_) (fun c6 => ?_)
                · refine si_inc (lv' := [(2, .int (sI (i + 1))), (0, .ref a), (1, .int (sI d)), (3, .int (sI j))]) S dX6_whyNot_115 hl (k := 2) rfl (by decide) rfl (fun ls hl => ?_)
                  refine lv_goto (tgt := 42) hx_ hb_ dX6_whyNot_118 (by decide) ?_
                  exact ih42 (i + 1) _ _ _ (by omega) (by omega) (idx_st hn (fun h => by obtain ⟨o, h1, h2⟩ := h; exact hn2 o h1.1 (by omega) h2)) hV (lv_sub hl [1, 2, 0] rfl)
                · refine lv_aload_n hx_ hb_ dX6_whyNot_60 rfl (lv_at hl 0 rfl) ?_
                  refine sc_get (ci := 4) (C := RX6) (T := TX6) (n := 8) S hK hV inX6_ (hst).1 rfl 0 (by decide) (S.2.2.2.2 _ (List.mem_of_getElem? (i := 2) rfl)) rfl rfl dX6_whyNot_61 ?_
                  refine lv_iload_n hx_ hb_ dX6_whyNot_64 rfl (lv_at hl 2 rfl) ?_
                  refine si_const S dX6_whyNot_65 ?_
                  refine sk_VP E hV (As := [.int (sI i), .int (sI 5)]) (rest := []) (kTg l_ G b_ M N (a + 1) 7 (f 568) 70 (tvS f) i 5 (f (50 + i)) ((hst).2.1) (by omega) (by omega) (tvS_5 f i)) (cwV 2 S.2.2.2.2 gX6_whyNot_X8_get rfl rfl rfl (by decide +kernel) ⟨Nat.le_of_ble_eq_true rfl, Nat.le_of_ble_eq_true rfl⟩) (ci := 6) ((hst).2.1).1 rfl rfl rfl hl.1 (Nat.le_of_ble_eq_true rfl) dX6_whyNot_66 (c1 := 0) (s1 := 0) ⟨⟨rfl, rfl⟩, by decide, by decide⟩ (fun H locs hV => ?_)
                  have kn7 : -1 ≤ f (50 + i) ∧ f (50 + i) ≤ 3 := (sOk_S hok i (by omega) (by omega)).2.2.2.2.2.1
                  refine lv_iload_n hx_ hb_ dX6_whyNot_69 rfl (lv_at hl 1 rfl) ?_
                  refine sb_ne (tgt := 109) S dX6_whyNot_70 (by decide) (by omega) (fun c8 => ?_) (fun c8 => ?_)
                  · refine si_inc (lv' := [(3, .int (sI (j + 1))), (0, .ref a), (1, .int (sI d)), (2, .int (sI i))]) S dX6_whyNot_109 hl (k := 3) rfl (by decide) rfl (fun ls hl => ?_)
                    refine lv_goto (tgt := 55) hx_ hb_ dX6_whyNot_112 (by decide) ?_
                    exact ih55 (j + 1) _ _ _ (by omega) (by omega) (idx_st hn2 (fun h => by obtain ⟨h1, h2, h3⟩ := h; first | (exact absurd h1 (by omega)) | contradiction)) hV (lv_sub hl [1, 2, 3, 0] rfl)
                  · refine lv_aload_n hx_ hb_ dX6_whyNot_73 rfl (lv_at hl 0 rfl) ?_
                    refine lv_iload_n hx_ hb_ dX6_whyNot_74 rfl (lv_at hl 2 rfl) ?_
                    refine lv_iload_n hx_ hb_ dX6_whyNot_75 rfl (lv_at hl 3 rfl) ?_
                    refine sk_VP E hV (As := [.int (sI i), .int (sI j)]) (rest := []) (kX6_areInOneDrawer l_ G b_ M N a f i j hst (by omega) (by omega)) (cwV 2 S.2.2.2.2 gX6_whyNot_X6_areInOneDrawer rfl rfl rfl (by decide +kernel) ⟨Nat.le_of_ble_eq_true rfl, Nat.le_of_ble_eq_true rfl⟩) (ci := 4) (hst).1 rfl rfl rfl hl.1 (Nat.le_of_ble_eq_true rfl) dX6_whyNot_76 (c1 := 0) (s1 := 0) ⟨⟨rfl, rfl⟩, by decide, by decide⟩ (fun H locs hV => ?_)
                    refine sq_eq (tgt := 109) S dX6_whyNot_79 (by decide) (fun c9 => ?_) (fun c9 => ?_)
                    · refine si_inc (lv' := [(3, .int (sI (j + 1))), (0, .ref a), (1, .int (sI d)), (2, .int (sI i))]) S dX6_whyNot_109 hl (k := 3) rfl (by decide) rfl (fun ls hl => ?_)
                      refine lv_goto (tgt := 55) hx_ hb_ dX6_whyNot_112 (by decide) ?_
                      exact ih55 (j + 1) _ _ _ (by omega) (by omega) (idx_st hn2 (fun h => by obtain ⟨h1, h2, h3⟩ := h; first | (exact absurd h1 (by omega)) | contradiction)) hV (lv_sub hl [1, 2, 3, 0] rfl)
                    · refine lv_aload_n hx_ hb_ dX6_whyNot_82 rfl (lv_at hl 0 rfl) ?_
                      refine lv_aload_n hx_ hb_ dX6_whyNot_83 rfl (lv_at hl 0 rfl) ?_
                      refine sc_get (ci := 4) (C := RX6) (T := TX6) (n := 8) S hK hV inX6_ (hst).1 rfl 0 (by decide) (S.2.2.2.2 _ (List.mem_of_getElem? (i := 2) rfl)) rfl rfl dX6_whyNot_84 ?_
                      refine lv_iload_n hx_ hb_ dX6_whyNot_87 rfl (lv_at hl 2 rfl) ?_
                      refine si_const S dX6_whyNot_88 ?_
                      refine sk_VP E hV (As := [.int (sI i), .int (sI 0)]) (rest := [.ref a]) (kTg l_ G b_ M N (a + 1) 7 (f 568) 70 (tvS f) i 0 (f (10 + i)) ((hst).2.1) (by omega) (by omega) (tvS_0 f i)) (cwV 2 S.2.2.2.2 gX6_whyNot_X8_get rfl rfl rfl (by decide +kernel) ⟨Nat.le_of_ble_eq_true rfl, Nat.le_of_ble_eq_true rfl⟩) (ci := 6) ((hst).2.1).1 rfl rfl rfl hl.1 (Nat.le_of_ble_eq_true rfl) dX6_whyNot_89 (c1 := 0) (s1 := 0) ⟨⟨rfl, rfl⟩, by decide, by decide⟩ (fun H locs hV => ?_)
                      have kn10 : 0 ≤ f (10 + i) ∧ f (10 + i) ≤ 5 := (sOk_S hok i (by omega) (by omega)).2.1
                      refine lv_aload_n hx_ hb_ dX6_whyNot_92 rfl (lv_at hl 0 rfl) ?_
                      refine sc_get (ci := 4) (C := RX6) (T := TX6) (n := 8) S hK hV inX6_ (hst).1 rfl 0 (by decide) (S.2.2.2.2 _ (List.mem_of_getElem? (i := 2) rfl)) rfl rfl dX6_whyNot_93 ?_
                      refine lv_iload_n hx_ hb_ dX6_whyNot_96 rfl (lv_at hl 3 rfl) ?_
                      refine si_const S dX6_whyNot_97 ?_
                      refine sk_VP E hV (As := [.int (sI j), .int (sI 0)]) (rest := [.int (sI (f (10 + i))), .ref a]) (kTg l_ G b_ M N (a + 1) 7 (f 568) 70 (tvS f) j 0 (f (10 + j)) ((hst).2.1) (by omega) (by omega) (tvS_0 f j)) (cwV 2 S.2.2.2.2 gX6_whyNot_X8_get rfl rfl rfl (by decide +kernel) ⟨Nat.le_of_ble_eq_true rfl, Nat.le_of_ble_eq_true rfl⟩) (ci := 6) ((hst).2.1).1 rfl rfl rfl hl.1 (Nat.le_of_ble_eq_true rfl) dX6_whyNot_98 (c1 := 0) (s1 := 0) ⟨⟨rfl, rfl⟩, by decide, by decide⟩ (fun H locs hV => ?_)
                      have kn11 : 0 ≤ f (10 + j) ∧ f (10 + j) ≤ 5 := (sOk_S hok j (by omega) (by omega)).2.1
                      refine sk_VP E hV (As := [.int (sI (f (10 + i))), .int (sI (f (10 + j)))]) (rest := []) (kX6_areParted l_ G b_ M N a f (f (10 + i)) (f (10 + j)) hst (by omega) (by omega)) (cwV 2 S.2.2.2.2 gX6_whyNot_X6_areParted rfl rfl rfl (by decide +kernel) ⟨Nat.le_of_ble_eq_true rfl, Nat.le_of_ble_eq_true rfl⟩) (ci := 4) (hst).1 rfl rfl rfl hl.1 (Nat.le_of_ble_eq_true rfl) dX6_whyNot_101 (c1 := 0) (s1 := 0) ⟨⟨rfl, rfl⟩, by decide, by decide⟩ (fun H locs hV => ?_)
                      refine sq_eq (tgt := 109) S dX6_whyNot_104 (by decide) (fun c12 => ?_) (fun c12 => ?_)
                      · refine si_inc (lv' := [(3, .int (sI (j + 1))), (0, .ref a), (1, .int (sI d)), (2, .int (sI i))]) S dX6_whyNot_109 hl (k := 3) rfl (by decide) rfl (fun ls hl => ?_)
                        refine lv_goto (tgt := 55) hx_ hb_ dX6_whyNot_112 (by decide) ?_
                        exact ih55 (j + 1) _ _ _ (by omega) (by omega) (idx_st hn2 (fun h => by obtain ⟨h1, h2, h3⟩ := h; first | (exact absurd h1 (by omega)) | contradiction)) hV (lv_sub hl [1, 2, 3, 0] rfl)
                      · refine si_const S dX6_whyNot_107 ?_
                        exact sr_i E hQ dX6_whyNot_108 ⟨Nat.le_of_ble_eq_true rfl, Nat.le_of_ble_eq_true rfl⟩ hV (⟨by unfold whyF; rw [pif_f (by omega), pif_f (by omega), pif_t ⟨i, j, ⟨by omega, by omega, by omega⟩, by assumption, by assumption, by assumption⟩], rfl, rfl⟩)
            exact L55 _ 0 _ _ _ (Nat.lt_succ_self _) (by omega) (fun k a b => by omega) hV (lv_sub hl [1, 2, 3, 0] rfl)
      exact L42 _ 0 _ _ _ (Nat.lt_succ_self _) (by omega) (fun k a b => by omega) hV (lv_sub hl [1, 2, 0] rfl)
    · refine si_const S dX6_whyNot_38 ?_
      exact sr_i E hQ dX6_whyNot_39 ⟨Nat.le_of_ble_eq_true rfl, Nat.le_of_ble_eq_true rfl⟩ hV (⟨by unfold whyF; rw [pif_f (by omega), pif_t (by omega)], rfl, rfl⟩)
  · refine si_const S dX6_whyNot_18 ?_
    exact sr_i E hQ dX6_whyNot_19 ⟨Nat.le_of_ble_eq_true rfl, Nat.le_of_ble_eq_true rfl⟩ hV (⟨by unfold whyF; rw [pif_t (by omega)], rfl, rfl⟩)

abbrev rmX6_allLieAsTheyMay : Room := { frames := 4, cells := 0, slots := 0, locals := 110 }
set_option maxHeartbeats 4000000 in
set_option maxRecDepth 100000 in
theorem kX6_allLieAsTheyMay (l_ : Launch) (G : sG) (b_ : Nat) (M : sM) (N : Nat) (a : Nat) (f : sF) (hst : stC G M a f) (hok : sOk f) : cP l_ yX6_allLieAsTheyMay wsX6_allLieAsTheyMay rmX6_allLieAsTheyMay G b_ M N [.ref a] (bI (∀ k, 0 ≤ k → k < 4 → whyF f k = 0)) := by
  refine sE.ofI (cc := cX6_allLieAsTheyMay) (nL := 2) (ret := (some .boolean)) (by decide) rfl (Nat.le_of_ble_eq_true rfl) ?_
  intro p_ e_ s_ m_ args_ below_ meth_ c_ ls Q hQ E hl
  have E : sE p_ l_ e_ rmX6_allLieAsTheyMay s_ m_ args_ below_ meth_ c_ cX6_allLieAsTheyMay 2 wsX6_allLieAsTheyMay RX6 "allLieAsTheyMay" (some .boolean) G b_ M N := E
  have S := E.1
  have hx_ := S.1
  have hb_ := S.2.1
  have hK := E.2.2.2.2.1
  have hV := E.2.2.2.2.2.2
  have hl : lv_has ls 2 [(0, .ref a)] := hl
  have inX6_ : ∀ w ∈ wsX60, w ∈ wsX6_allLieAsTheyMay := fun _ h => List.mem_cons_of_mem _ (List.mem_append_left _ (List.mem_append_right _ h))
  have inX8_ : ∀ w ∈ wsX80, w ∈ wsX6_allLieAsTheyMay := fun _ h => List.mem_cons_of_mem _ (List.mem_append_right _ h)
  have kn0 := sOk_N hok
  refine si_const S dX6_allLieAsTheyMay_0 ?_
  refine lv_istore_n (lv' := [(1, .int (sI 0)), (0, .ref a)]) hx_ hb_ dX6_allLieAsTheyMay_1 rfl hl (by decide) rfl (fun ls hl => ?_)
  have L2 : ∀ (fuel : Nat) (i : Int)  (H : Heap) (locs : List Loc) (ls : Array Slot), ((4 - i).toNat) < fuel → (0 ≤ i ∧ i ≤ 4) → (∀ k, 0 ≤ k → k < i → ¬ whyF f k ≠ 0) → sV G b_ M N s_ H locs → lv_has ls 2 [(0, .ref a), (1, .int (sI i))] → W p_ l_ e_ rmX6_allLieAsTheyMay s_ m_ args_ below_ meth_ c_ H locs 0 0 Q (F0 m_ 2 ls []) := by
    intro fuel
    induction fuel with
    | zero => intro i H locs ls hmu; exact absurd hmu (Nat.not_lt_zero _)
    | succ fuel ih2 =>
      intro i H locs ls hmu2 hv2_0 hn  hV hl
      refine lv_iload_n hx_ hb_ dX6_allLieAsTheyMay_2 rfl (lv_at hl 1 rfl) ?_
      refine si_const S dX6_allLieAsTheyMay_3 ?_
      refine sb_ge (tgt := 23) S dX6_allLieAsTheyMay_4 (by decide) (by omega) (fun c1 => ?_) (fun c1 => ?_)
      · refine si_const S dX6_allLieAsTheyMay_23 ?_
        exact sr_z E hQ (Or.inr rfl) dX6_allLieAsTheyMay_24 ⟨Nat.le_of_ble_eq_true rfl, Nat.le_of_ble_eq_true rfl⟩ hV (⟨(bI_t (fun k h1 h2 => Classical.not_not.mp (hn k h1 (by omega)))).symm, rfl, rfl⟩)
      · refine lv_aload_n hx_ hb_ dX6_allLieAsTheyMay_7 rfl (lv_at hl 0 rfl) ?_
        refine lv_iload_n hx_ hb_ dX6_allLieAsTheyMay_8 rfl (lv_at hl 1 rfl) ?_
        refine sk_VP E hV (As := [.int (sI i)]) (rest := []) (kX6_whyNot l_ G b_ M N a f i hst (by omega) (by omega)) (cwV 1 S.2.2.2.2 gX6_allLieAsTheyMay_X6_whyNot rfl rfl rfl (by decide +kernel) ⟨Nat.le_of_ble_eq_true rfl, Nat.le_of_ble_eq_true rfl⟩) (ci := 4) (hst).1 rfl rfl rfl hl.1 (Nat.le_of_ble_eq_true rfl) dX6_allLieAsTheyMay_9 (c1 := 0) (s1 := 0) ⟨⟨rfl, rfl⟩, by decide, by decide⟩ (fun H locs hV => ?_)
        refine sz_eq (tgt := 17) S dX6_allLieAsTheyMay_12 (by decide) (by have := whyF_r f i; omega) (fun c2 => ?_) (fun c2 => ?_)
        · refine si_inc (lv' := [(1, .int (sI (i + 1))), (0, .ref a)]) S dX6_allLieAsTheyMay_17 hl (k := 1) rfl (by decide) rfl (fun ls hl => ?_)
          refine lv_goto (tgt := 2) hx_ hb_ dX6_allLieAsTheyMay_20 (by decide) ?_
          exact ih2 (i + 1) _ _ _ (by omega) (by omega) (idx_st hn (fun h => h (by assumption))) hV (lv_sub hl [1, 0] rfl)
        · refine si_const S dX6_allLieAsTheyMay_15 ?_
          exact sr_z E hQ (Or.inl rfl) dX6_allLieAsTheyMay_16 ⟨Nat.le_of_ble_eq_true rfl, Nat.le_of_ble_eq_true rfl⟩ hV (⟨(bI_f (fun h => absurd (h i (by omega) (by omega)) (by assumption))).symm, rfl, rfl⟩)
  exact L2 _ 0 _ _ _ (Nat.lt_succ_self _) (by omega) (fun k a b => by omega) hV (lv_sub hl [1, 0] rfl)

abbrev rmX6_copyFrom : Room := { frames := 2, cells := 0, slots := 0, locals := 61 }
set_option maxHeartbeats 4000000 in
set_option maxRecDepth 100000 in
theorem kX6_copyFrom (l_ : Launch) (G : sG) (b_ : Nat) (M : sM) (N : Nat) (a : Nat) (f : sF) (a2 : Nat) (f2 : sF) (hst : stC G M a f) (hst2 : stC G M a2 f2) (hok2 : okN f2) (hne : a + 15 ≤ a2 ∨ a2 + 15 ≤ a) : cV l_ yX6_copyFrom wsX6_copyFrom rmX6_copyFrom G b_ M N [.ref a, .ref a2] (fun M1 N1 => N1 = N ∧ stC G M1 a f2 ∧ (∀ x : Nat, ¬ (a ≤ x ∧ x < a + 15) → M1 x = M x)) := by
  refine sE.ofV (cc := cX6_copyFrom) (nL := 2) (ret := none) (by decide) rfl (Nat.le_of_ble_eq_true rfl) ?_
  intro p_ e_ s_ m_ args_ below_ meth_ c_ ls Q hQ E hl
  have E : sE p_ l_ e_ rmX6_copyFrom s_ m_ args_ below_ meth_ c_ cX6_copyFrom 2 wsX6_copyFrom RX6 "copyFrom" none G b_ M N := E
  have S := E.1
  have hx_ := S.1
  have hb_ := S.2.1
  have hK := E.2.2.2.2.1
  have hV := E.2.2.2.2.2.2
  have hl : lv_has ls 2 [(0, .ref a), (1, .ref a2)] := hl
  have inX6_ : ∀ w ∈ wsX60, w ∈ wsX6_copyFrom := fun _ h => List.mem_cons_of_mem _ (List.mem_append_left _ (List.mem_append_right _ h))
  have inX8_ : ∀ w ∈ wsX80, w ∈ wsX6_copyFrom := fun _ h => List.mem_cons_of_mem _ (List.mem_append_right _ h)
  have hx1 : M a = some (sObj 4 [.ref (a + 1), .ref (a + 3), .ref (a + 5), .ref (a + 7), .ref (a + 9), .ref (a + 11), .ref (a + 13), .int (sI (f 571))]) := (hst).1
  have hx2 : stK G M (a + 1) 7 (f 568) 70 (tvS f) := (hst).2.1
  have hx3 : stK G M (a + 3) 2 (f 569) 80 (tvC f) := (hst).2.2.1
  have hx4 : stK G M (a + 5) 2 4 8 (tvD f) := (hst).2.2.2.1
  have hx5 : stK G M (a + 7) 6 6 36 (tvP f) := (hst).2.2.2.2.1
  have hx6 : stK G M (a + 9) 5 (f 570) 300 (tvT f) := (hst).2.2.2.2.2.1
  have hx7 : stK G M (a + 11) 4 (f 572) 80 (tvW f) := (hst).2.2.2.2.2.2.1
  have hx8 : stK G M (a + 13) 3 (f 573) 24 (tvO f) := (hst).2.2.2.2.2.2.2
  refine lv_aload_n hx_ hb_ dX6_copyFrom_0 rfl (lv_at hl 0 rfl) ?_
  refine sc_get (ci := 4) (C := RX6) (T := TX6) (n := 8) S hK hV inX6_ hx1 rfl 0 (by decide) (S.2.2.2.2 _ (List.mem_of_getElem? (i := 1) rfl)) rfl rfl dX6_copyFrom_1 ?_
  refine lv_aload_n hx_ hb_ dX6_copyFrom_4 rfl (lv_at hl 1 rfl) ?_
  refine sc_get (ci := 4) (C := RX6) (T := TX6) (n := 8) S hK hV inX6_ (hst2).1 rfl 0 (by decide) (S.2.2.2.2 _ (List.mem_of_getElem? (i := 1) rfl)) rfl rfl dX6_copyFrom_5 ?_
  refine sk_Vv E hV (As := [.ref (a2 + 1)]) (rest := []) (kTk l_ G b_ M N (a + 1) 7 (f 568) 70 (tvS f) (a2 + 1) (f2 568) (tvS f2) hx2 ((hst2).2.1) (by omega) (by omega)) (cwV 1 S.2.2.2.2 gX6_copyFrom_X8_copyFrom rfl rfl rfl (by decide +kernel) ⟨Nat.le_of_ble_eq_true rfl, Nat.le_of_ble_eq_true rfl⟩) (ci := 6) (hx2).1 rfl rfl rfl hl.1 (Nat.le_of_ble_eq_true rfl) dX6_copyFrom_8 (c1 := 0) (s1 := 0) ⟨⟨rfl, rfl⟩, by decide, by decide⟩ (fun M9 N10 H locs hp11 hV => ?_)
  obtain ⟨hN13, hc14, hf15⟩ := hp11
  rw [hN13] at hV
  refine lv_aload_n hx_ hb_ dX6_copyFrom_11 rfl (lv_at hl 0 rfl) ?_
  have hc16 : M9 a = some (sObj 4 [.ref (a + 1), .ref (a + 3), .ref (a + 5), .ref (a + 7), .ref (a + 9), .ref (a + 11), .ref (a + 13), .int (sI (f 571))]) := (hf15 a (by omega) (by omega)).trans hx1
  refine sc_get (ci := 4) (C := RX6) (T := TX6) (n := 8) S hK hV inX6_ hc16 rfl 1 (by decide) (S.2.2.2.2 _ (List.mem_of_getElem? (i := 2) rfl)) rfl rfl dX6_copyFrom_12 ?_
  refine lv_aload_n hx_ hb_ dX6_copyFrom_15 rfl (lv_at hl 1 rfl) ?_
  have hc17 : stC G M9 a2 f2 := hst2.fr (fun x q8 q9 => hf15 x (by omega) (by omega))
  refine sc_get (ci := 4) (C := RX6) (T := TX6) (n := 8) S hK hV inX6_ (hc17).1 rfl 1 (by decide) (S.2.2.2.2 _ (List.mem_of_getElem? (i := 2) rfl)) rfl rfl dX6_copyFrom_16 ?_
  have hc18 : stK G M9 (a + 3) 2 (f 569) 80 (tvC f) := hx3.fr (fun x q8 q9 => hf15 x (by omega) (by omega))
  refine sk_Vv E hV (As := [.ref (a2 + 3)]) (rest := []) (kTk l_ G b_ M9 N (a + 3) 2 (f 569) 80 (tvC f) (a2 + 3) (f2 569) (tvC f2) hc18 ((hc17).2.2.1) (by omega) (by omega)) (cwV 1 S.2.2.2.2 gX6_copyFrom_X8_copyFrom rfl rfl rfl (by decide +kernel) ⟨Nat.le_of_ble_eq_true rfl, Nat.le_of_ble_eq_true rfl⟩) (ci := 6) (hc18).1 rfl rfl rfl hl.1 (Nat.le_of_ble_eq_true rfl) dX6_copyFrom_19 (c1 := 0) (s1 := 0) ⟨⟨rfl, rfl⟩, by decide, by decide⟩ (fun M19 N20 H locs hp21 hV => ?_)
  obtain ⟨hN23, hc24, hf25⟩ := hp21
  rw [hN23] at hV
  refine lv_aload_n hx_ hb_ dX6_copyFrom_22 rfl (lv_at hl 0 rfl) ?_
  have hc26 : M19 a = some (sObj 4 [.ref (a + 1), .ref (a + 3), .ref (a + 5), .ref (a + 7), .ref (a + 9), .ref (a + 11), .ref (a + 13), .int (sI (f 571))]) := (hf25 a (by omega) (by omega)).trans hc16
  refine sc_get (ci := 4) (C := RX6) (T := TX6) (n := 8) S hK hV inX6_ hc26 rfl 2 (by decide) (S.2.2.2.2 _ (List.mem_of_getElem? (i := 3) rfl)) rfl rfl dX6_copyFrom_23 ?_
  refine lv_aload_n hx_ hb_ dX6_copyFrom_26 rfl (lv_at hl 1 rfl) ?_
  have hc27 : stC G M19 a2 f2 := hc17.fr (fun x q8 q9 => hf25 x (by omega) (by omega))
  refine sc_get (ci := 4) (C := RX6) (T := TX6) (n := 8) S hK hV inX6_ (hc27).1 rfl 2 (by decide) (S.2.2.2.2 _ (List.mem_of_getElem? (i := 3) rfl)) rfl rfl dX6_copyFrom_27 ?_
  have hc28 : stK G M19 (a + 5) 2 4 8 (tvD f) := hx4.fr (fun x q8 q9 => (hf25 x (by omega) (by omega)).trans (hf15 x (by omega) (by omega)))
  refine sk_Vv E hV (As := [.ref (a2 + 5)]) (rest := []) (kTk l_ G b_ M19 N (a + 5) 2 4 8 (tvD f) (a2 + 5) 4 (tvD f2) hc28 ((hc27).2.2.2.1) (by omega) (by omega)) (cwV 1 S.2.2.2.2 gX6_copyFrom_X8_copyFrom rfl rfl rfl (by decide +kernel) ⟨Nat.le_of_ble_eq_true rfl, Nat.le_of_ble_eq_true rfl⟩) (ci := 6) (hc28).1 rfl rfl rfl hl.1 (Nat.le_of_ble_eq_true rfl) dX6_copyFrom_30 (c1 := 0) (s1 := 0) ⟨⟨rfl, rfl⟩, by decide, by decide⟩ (fun M29 N30 H locs hp31 hV => ?_)
  obtain ⟨hN33, hc34, hf35⟩ := hp31
  rw [hN33] at hV
  refine lv_aload_n hx_ hb_ dX6_copyFrom_33 rfl (lv_at hl 0 rfl) ?_
  have hc36 : M29 a = some (sObj 4 [.ref (a + 1), .ref (a + 3), .ref (a + 5), .ref (a + 7), .ref (a + 9), .ref (a + 11), .ref (a + 13), .int (sI (f 571))]) := (hf35 a (by omega) (by omega)).trans hc26
  refine sc_get (ci := 4) (C := RX6) (T := TX6) (n := 8) S hK hV inX6_ hc36 rfl 3 (by decide) (S.2.2.2.2 _ (List.mem_of_getElem? (i := 4) rfl)) rfl rfl dX6_copyFrom_34 ?_
  refine lv_aload_n hx_ hb_ dX6_copyFrom_37 rfl (lv_at hl 1 rfl) ?_
  have hc37 : stC G M29 a2 f2 := hc27.fr (fun x q8 q9 => hf35 x (by omega) (by omega))
  refine sc_get (ci := 4) (C := RX6) (T := TX6) (n := 8) S hK hV inX6_ (hc37).1 rfl 3 (by decide) (S.2.2.2.2 _ (List.mem_of_getElem? (i := 4) rfl)) rfl rfl dX6_copyFrom_38 ?_
  have hc38 : stK G M29 (a + 7) 6 6 36 (tvP f) := hx5.fr (fun x q8 q9 => ((hf35 x (by omega) (by omega)).trans (hf25 x (by omega) (by omega))).trans (hf15 x (by omega) (by omega)))
  refine sk_Vv E hV (As := [.ref (a2 + 7)]) (rest := []) (kTk l_ G b_ M29 N (a + 7) 6 6 36 (tvP f) (a2 + 7) 6 (tvP f2) hc38 ((hc37).2.2.2.2.1) (by omega) (by omega)) (cwV 1 S.2.2.2.2 gX6_copyFrom_X8_copyFrom rfl rfl rfl (by decide +kernel) ⟨Nat.le_of_ble_eq_true rfl, Nat.le_of_ble_eq_true rfl⟩) (ci := 6) (hc38).1 rfl rfl rfl hl.1 (Nat.le_of_ble_eq_true rfl) dX6_copyFrom_41 (c1 := 0) (s1 := 0) ⟨⟨rfl, rfl⟩, by decide, by decide⟩ (fun M39 N40 H locs hp41 hV => ?_)
  obtain ⟨hN43, hc44, hf45⟩ := hp41
  rw [hN43] at hV
  refine lv_aload_n hx_ hb_ dX6_copyFrom_44 rfl (lv_at hl 0 rfl) ?_
  have hc46 : M39 a = some (sObj 4 [.ref (a + 1), .ref (a + 3), .ref (a + 5), .ref (a + 7), .ref (a + 9), .ref (a + 11), .ref (a + 13), .int (sI (f 571))]) := (hf45 a (by omega) (by omega)).trans hc36
  refine sc_get (ci := 4) (C := RX6) (T := TX6) (n := 8) S hK hV inX6_ hc46 rfl 4 (by decide) (S.2.2.2.2 _ (List.mem_of_getElem? (i := 5) rfl)) rfl rfl dX6_copyFrom_45 ?_
  refine lv_aload_n hx_ hb_ dX6_copyFrom_48 rfl (lv_at hl 1 rfl) ?_
  have hc47 : stC G M39 a2 f2 := hc37.fr (fun x q8 q9 => hf45 x (by omega) (by omega))
  refine sc_get (ci := 4) (C := RX6) (T := TX6) (n := 8) S hK hV inX6_ (hc47).1 rfl 4 (by decide) (S.2.2.2.2 _ (List.mem_of_getElem? (i := 5) rfl)) rfl rfl dX6_copyFrom_49 ?_
  have hc48 : stK G M39 (a + 9) 5 (f 570) 300 (tvT f) := hx6.fr (fun x q8 q9 => (((hf45 x (by omega) (by omega)).trans (hf35 x (by omega) (by omega))).trans (hf25 x (by omega) (by omega))).trans (hf15 x (by omega) (by omega)))
  refine sk_Vv E hV (As := [.ref (a2 + 9)]) (rest := []) (kTk l_ G b_ M39 N (a + 9) 5 (f 570) 300 (tvT f) (a2 + 9) (f2 570) (tvT f2) hc48 ((hc47).2.2.2.2.2.1) (by omega) (by omega)) (cwV 1 S.2.2.2.2 gX6_copyFrom_X8_copyFrom rfl rfl rfl (by decide +kernel) ⟨Nat.le_of_ble_eq_true rfl, Nat.le_of_ble_eq_true rfl⟩) (ci := 6) (hc48).1 rfl rfl rfl hl.1 (Nat.le_of_ble_eq_true rfl) dX6_copyFrom_52 (c1 := 0) (s1 := 0) ⟨⟨rfl, rfl⟩, by decide, by decide⟩ (fun M49 N50 H locs hp51 hV => ?_)
  obtain ⟨hN53, hc54, hf55⟩ := hp51
  rw [hN53] at hV
  refine lv_aload_n hx_ hb_ dX6_copyFrom_55 rfl (lv_at hl 0 rfl) ?_
  have hc56 : M49 a = some (sObj 4 [.ref (a + 1), .ref (a + 3), .ref (a + 5), .ref (a + 7), .ref (a + 9), .ref (a + 11), .ref (a + 13), .int (sI (f 571))]) := (hf55 a (by omega) (by omega)).trans hc46
  refine sc_get (ci := 4) (C := RX6) (T := TX6) (n := 8) S hK hV inX6_ hc56 rfl 5 (by decide) (S.2.2.2.2 _ (List.mem_of_getElem? (i := 6) rfl)) rfl rfl dX6_copyFrom_56 ?_
  refine lv_aload_n hx_ hb_ dX6_copyFrom_59 rfl (lv_at hl 1 rfl) ?_
  have hc57 : stC G M49 a2 f2 := hc47.fr (fun x q8 q9 => hf55 x (by omega) (by omega))
  refine sc_get (ci := 4) (C := RX6) (T := TX6) (n := 8) S hK hV inX6_ (hc57).1 rfl 5 (by decide) (S.2.2.2.2 _ (List.mem_of_getElem? (i := 6) rfl)) rfl rfl dX6_copyFrom_60 ?_
  have hc58 : stK G M49 (a + 11) 4 (f 572) 80 (tvW f) := hx7.fr (fun x q8 q9 => ((((hf55 x (by omega) (by omega)).trans (hf45 x (by omega) (by omega))).trans (hf35 x (by omega) (by omega))).trans (hf25 x (by omega) (by omega))).trans (hf15 x (by omega) (by omega)))
  refine sk_Vv E hV (As := [.ref (a2 + 11)]) (rest := []) (kTk l_ G b_ M49 N (a + 11) 4 (f 572) 80 (tvW f) (a2 + 11) (f2 572) (tvW f2) hc58 ((hc57).2.2.2.2.2.2.1) (by omega) (by omega)) (cwV 1 S.2.2.2.2 gX6_copyFrom_X8_copyFrom rfl rfl rfl (by decide +kernel) ⟨Nat.le_of_ble_eq_true rfl, Nat.le_of_ble_eq_true rfl⟩) (ci := 6) (hc58).1 rfl rfl rfl hl.1 (Nat.le_of_ble_eq_true rfl) dX6_copyFrom_63 (c1 := 0) (s1 := 0) ⟨⟨rfl, rfl⟩, by decide, by decide⟩ (fun M59 N60 H locs hp61 hV => ?_)
  obtain ⟨hN63, hc64, hf65⟩ := hp61
  rw [hN63] at hV
  refine lv_aload_n hx_ hb_ dX6_copyFrom_66 rfl (lv_at hl 0 rfl) ?_
  have hc66 : M59 a = some (sObj 4 [.ref (a + 1), .ref (a + 3), .ref (a + 5), .ref (a + 7), .ref (a + 9), .ref (a + 11), .ref (a + 13), .int (sI (f 571))]) := (hf65 a (by omega) (by omega)).trans hc56
  refine sc_get (ci := 4) (C := RX6) (T := TX6) (n := 8) S hK hV inX6_ hc66 rfl 6 (by decide) (S.2.2.2.2 _ (List.mem_of_getElem? (i := 7) rfl)) rfl rfl dX6_copyFrom_67 ?_
  refine lv_aload_n hx_ hb_ dX6_copyFrom_70 rfl (lv_at hl 1 rfl) ?_
  have hc67 : stC G M59 a2 f2 := hc57.fr (fun x q8 q9 => hf65 x (by omega) (by omega))
  refine sc_get (ci := 4) (C := RX6) (T := TX6) (n := 8) S hK hV inX6_ (hc67).1 rfl 6 (by decide) (S.2.2.2.2 _ (List.mem_of_getElem? (i := 7) rfl)) rfl rfl dX6_copyFrom_71 ?_
  have hc68 : stK G M59 (a + 13) 3 (f 573) 24 (tvO f) := hx8.fr (fun x q8 q9 => (((((hf65 x (by omega) (by omega)).trans (hf55 x (by omega) (by omega))).trans (hf45 x (by omega) (by omega))).trans (hf35 x (by omega) (by omega))).trans (hf25 x (by omega) (by omega))).trans (hf15 x (by omega) (by omega)))
  refine sk_Vv E hV (As := [.ref (a2 + 13)]) (rest := []) (kTk l_ G b_ M59 N (a + 13) 3 (f 573) 24 (tvO f) (a2 + 13) (f2 573) (tvO f2) hc68 ((hc67).2.2.2.2.2.2.2) (by omega) (by omega)) (cwV 1 S.2.2.2.2 gX6_copyFrom_X8_copyFrom rfl rfl rfl (by decide +kernel) ⟨Nat.le_of_ble_eq_true rfl, Nat.le_of_ble_eq_true rfl⟩) (ci := 6) (hc68).1 rfl rfl rfl hl.1 (Nat.le_of_ble_eq_true rfl) dX6_copyFrom_74 (c1 := 0) (s1 := 0) ⟨⟨rfl, rfl⟩, by decide, by decide⟩ (fun M69 N70 H locs hp71 hV => ?_)
  obtain ⟨hN73, hc74, hf75⟩ := hp71
  rw [hN73] at hV
  refine lv_aload_n hx_ hb_ dX6_copyFrom_77 rfl (lv_at hl 0 rfl) ?_
  refine lv_aload_n hx_ hb_ dX6_copyFrom_78 rfl (lv_at hl 1 rfl) ?_
  have hc76 : stC G M69 a2 f2 := hc67.fr (fun x q8 q9 => hf75 x (by omega) (by omega))
  refine sc_get (ci := 4) (C := RX6) (T := TX6) (n := 8) S hK hV inX6_ (hc76).1 rfl 7 (by decide) (S.2.2.2.2 _ (List.mem_of_getElem? (i := 8) rfl)) rfl rfl dX6_copyFrom_79 ?_
  have hc77 : M69 a = some (sObj 4 [.ref (a + 1), .ref (a + 3), .ref (a + 5), .ref (a + 7), .ref (a + 9), .ref (a + 11), .ref (a + 13), .int (sI (f 571))]) := (hf75 a (by omega) (by omega)).trans hc66
  refine sc_put (ci := 4) (C := RX6) (T := TX6) (n := 8) S hK hV inX6_ tyX6_ok nmX6 hc77 rfl 7 (by decide) (S.2.2.2.2 _ (List.mem_of_getElem? (i := 8) rfl)) rfl rfl rfl rfl (Nat.le_of_ble_eq_true rfl) dX6_copyFrom_82 (fs1 := [.ref (a + 1), .ref (a + 3), .ref (a + 5), .ref (a + 7), .ref (a + 9), .ref (a + 11), .ref (a + 13), .int (sI (f2 571))]) rfl (fun M78 H locs hM78 hV => ?_)
  have hc79 : M78 a = some (sObj 4 [.ref (a + 1), .ref (a + 3), .ref (a + 5), .ref (a + 7), .ref (a + 9), .ref (a + 11), .ref (a + 13), .int (sI (f2 571))]) := (congrFun hM78 a).trans (va_up_self M69 a _)
  have hc80 : stK G M78 (a + 1) 7 (f2 568) 70 (tvS f2) := hc14.fr (fun x q8 q9 => (((((((congrFun hM78 x).trans (va_up_ne M69 _ (by omega))).trans (hf75 x (by omega) (by omega))).trans (hf65 x (by omega) (by omega))).trans (hf55 x (by omega) (by omega))).trans (hf45 x (by omega) (by omega))).trans (hf35 x (by omega) (by omega))).trans (hf25 x (by omega) (by omega)))
  have hc81 : stK G M78 (a + 3) 2 (f2 569) 80 (tvC f2) := hc24.fr (fun x q8 q9 => ((((((congrFun hM78 x).trans (va_up_ne M69 _ (by omega))).trans (hf75 x (by omega) (by omega))).trans (hf65 x (by omega) (by omega))).trans (hf55 x (by omega) (by omega))).trans (hf45 x (by omega) (by omega))).trans (hf35 x (by omega) (by omega)))
  have hc82 : stK G M78 (a + 5) 2 4 8 (tvD f2) := hc34.fr (fun x q8 q9 => (((((congrFun hM78 x).trans (va_up_ne M69 _ (by omega))).trans (hf75 x (by omega) (by omega))).trans (hf65 x (by omega) (by omega))).trans (hf55 x (by omega) (by omega))).trans (hf45 x (by omega) (by omega)))
  have hc83 : stK G M78 (a + 7) 6 6 36 (tvP f2) := hc44.fr (fun x q8 q9 => ((((congrFun hM78 x).trans (va_up_ne M69 _ (by omega))).trans (hf75 x (by omega) (by omega))).trans (hf65 x (by omega) (by omega))).trans (hf55 x (by omega) (by omega)))
  have hc84 : stK G M78 (a + 9) 5 (f2 570) 300 (tvT f2) := hc54.fr (fun x q8 q9 => (((congrFun hM78 x).trans (va_up_ne M69 _ (by omega))).trans (hf75 x (by omega) (by omega))).trans (hf65 x (by omega) (by omega)))
  have hc85 : stK G M78 (a + 11) 4 (f2 572) 80 (tvW f2) := hc64.fr (fun x q8 q9 => ((congrFun hM78 x).trans (va_up_ne M69 _ (by omega))).trans (hf75 x (by omega) (by omega)))
  have hc86 : stK G M78 (a + 13) 3 (f2 573) 24 (tvO f2) := hc74.fr (fun x q8 q9 => (congrFun hM78 x).trans (va_up_ne M69 _ (by omega)))
  exact sr_v E hQ dX6_copyFrom_85 ⟨Nat.le_of_ble_eq_true rfl, Nat.le_of_ble_eq_true rfl⟩ hV (⟨rfl, ⟨hc79, hc80, hc81, hc82, hc83, hc84, hc85, hc86⟩, fun x q0 => ((((((((congrFun hM78 x).trans (va_up_ne M69 _ (by omega))).trans (hf75 x (by omega) (by omega))).trans (hf65 x (by omega) (by omega))).trans (hf55 x (by omega) (by omega))).trans (hf45 x (by omega) (by omega))).trans (hf35 x (by omega) (by omega))).trans (hf25 x (by omega) (by omega))).trans (hf15 x (by omega) (by omega))⟩)
