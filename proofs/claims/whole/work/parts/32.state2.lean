theorem idx_st {P : Int → Prop} {i : Int} (h : ∀ k, 0 ≤ k → k < i → ¬ P k) (h2 : ¬ P i) : ∀ k, 0 ≤ k → k < i + 1 → ¬ P k := fun k a b => by
  by_cases hk : k = i
  · rw [hk]; exact h2
  · exact h k a (by omega)

abbrev rmX6_numberOf : Room := { frames := 2, cells := 0, slots := 0, locals := 63 }
set_option maxHeartbeats 4000000 in
set_option maxRecDepth 100000 in
theorem kX6_numberOf (l_ : Launch) (G : sG) (b_ : Nat) (M : sM) (N : Nat) (a : Nat) (f : sF) (c : Int) (hst : stC G M a f) (hok : sOk f) (hc : 0 ≤ c ∧ c < 531441) : cP l_ yX6_numberOf wsX6_numberOf rmX6_numberOf G b_ M N [.ref a, .int (sI (cod c))] (idx (fun q => f q = c) (f 568)) := by
  sorry

abbrev rmX6_placeOf : Room := { frames := 2, cells := 0, slots := 0, locals := 63 }
set_option maxHeartbeats 4000000 in
set_option maxRecDepth 100000 in
theorem kX6_placeOf (l_ : Launch) (G : sG) (b_ : Nat) (M : sM) (N : Nat) (a : Nat) (f : sF) (s : Int) (hst : stC G M a f) (hok : sOk f) (hs : 0 ≤ s ∧ s < f 568) : cP l_ yX6_placeOf wsX6_placeOf rmX6_placeOf G b_ M N [.ref a, .int (sI s)] (isum (f 568) (plT f s)) := by
  sorry

abbrev rmX6_areParted : Room := { frames := 2, cells := 0, slots := 0, locals := 63 }
set_option maxHeartbeats 4000000 in
set_option maxRecDepth 100000 in
theorem kX6_areParted (l_ : Launch) (G : sG) (b_ : Nat) (M : sM) (N : Nat) (a : Nat) (f : sF) (i j : Int) (hst : stC G M a f) (hok : sOk f) (hi : 0 ≤ i ∧ i < 6 ∧ 0 ≤ j ∧ j < 6) : cP l_ yX6_areParted wsX6_areParted rmX6_areParted G b_ M N [.ref a, .int (sI i), .int (sI j)] (bI (tb (f (158 + i)) j)) := by
  sorry

abbrev rmX6_areInOneDrawer : Room := { frames := 2, cells := 0, slots := 0, locals := 63 }
set_option maxHeartbeats 4000000 in
set_option maxRecDepth 100000 in
theorem kX6_areInOneDrawer (l_ : Launch) (G : sG) (b_ : Nat) (M : sM) (N : Nat) (a : Nat) (f : sF) (s o : Int) (hst : stC G M a f) (hok : sOk f) (hs : 0 ≤ s ∧ s < f 568 ∧ 0 ≤ o ∧ o < f 568) : cP l_ yX6_areInOneDrawer wsX6_areInOneDrawer rmX6_areInOneDrawer G b_ M N [.ref a, .int (sI s), .int (sI o)] (bI (inO f s o)) := by
  refine sE.ofI (cc := cX6_areInOneDrawer) (nL := 4) (ret := (some .boolean)) (by decide) rfl (Nat.le_of_ble_eq_true rfl) ?_
  intro p_ e_ s_ m_ args_ below_ meth_ c_ ls Q hQ E hl
  have E : sE p_ l_ e_ rmX6_areInOneDrawer s_ m_ args_ below_ meth_ c_ cX6_areInOneDrawer 4 wsX6_areInOneDrawer RX6 "areInOneDrawer" (some .boolean) G b_ M N := E
  have S := E.1
  have hx := S.1
  have hb := S.2.1
  have hK := E.2.2.2.2.1
  have hV := E.2.2.2.2.2.2
  have hl : lv_has ls 4 [(0, .ref a), (1, .int (sI s)), (2, .int (sI o))] := hl
  have inX6_ : ∀ w ∈ wsX60, w ∈ wsX6_areInOneDrawer := fun _ h => List.mem_cons_of_mem _ (List.mem_append_left _ (List.mem_append_right _ h))
  have inX8_ : ∀ w ∈ wsX80, w ∈ wsX6_areInOneDrawer := fun _ h => List.mem_cons_of_mem _ (List.mem_append_right _ h)
  have kn0 := sOk_N hok
  refine lv_aload_n hx hb dX6_areInOneDrawer_0 rfl (lv_at hl 0 rfl) ?_
  refine sc_get (ci := 4) (C := RX6) (T := TX6) (n := 8) S hK hV inX6_ (hst).1 rfl 0 (by decide) (S.2.2.2.2 _ (List.mem_of_getElem? (i := 1) rfl)) rfl rfl dX6_areInOneDrawer_1 ?_
  refine lv_iload_n hx hb dX6_areInOneDrawer_4 rfl (lv_at hl 1 rfl) ?_
  refine si_const S dX6_areInOneDrawer_5 ?_
  refine sk_VP E hV (As := [.int (sI s), .int (sI 5)]) (rest := []) (kTg l_ G b_ M N (a + 1) 7 (f 568) 70 (tvS f) s 5 (f (50 + s)) ((hst).2.1) (by omega) (by omega) (tvS_5 f s)) (cwV 2 S.2.2.2.2 gX6_areInOneDrawer_X8_get rfl rfl rfl (by decide +kernel) ⟨Nat.le_of_ble_eq_true rfl, Nat.le_of_ble_eq_true rfl⟩) (ci := 6) ((hst).2.1).1 rfl rfl rfl hl.1 (Nat.le_of_ble_eq_true rfl) dX6_areInOneDrawer_6 (c1 := 0) (s1 := 0) ⟨⟨rfl, rfl⟩, by decide, by decide⟩ (fun H locs hV => ?_)
  have kn1 : -1 ≤ f (50 + s) ∧ f (50 + s) ≤ 3 := (sOk_S hok s (by omega) (by omega)).2.2.2.2.2.1
  refine lv_istore_n (lv' := [(3, .int (sI (f (50 + s)))), (0, .ref a), (1, .int (sI s)), (2, .int (sI o))]) hx hb dX6_areInOneDrawer_9 rfl hl (by decide) rfl (fun ls hl => ?_)
  refine lv_iload_n hx hb dX6_areInOneDrawer_10 rfl (lv_at hl 2 rfl) ?_
  refine lv_iload_n hx hb dX6_areInOneDrawer_11 rfl (lv_at hl 3 rfl) ?_
  refine sb_eq (tgt := 37) S dX6_areInOneDrawer_12 (by decide) (by omega) (fun c2 => ?_) (fun c2 => ?_)
  · refine si_const S dX6_areInOneDrawer_37 ?_
    exact sr_z E hQ (Or.inl rfl) dX6_areInOneDrawer_38 ⟨Nat.le_of_ble_eq_true rfl, Nat.le_of_ble_eq_true rfl⟩ hV (⟨(bI_f (by unfold inO; omega)).symm, rfl, rfl⟩)
  · refine lv_iload_n hx hb dX6_areInOneDrawer_15 rfl (lv_at hl 0 rfl) ?_
    refine si_const S dX6_areInOneDrawer_16 ?_
    refine sb_eq (tgt := 37) S dX6_areInOneDrawer_17 (by decide) (by omega) (fun c3 => ?_) (fun c3 => ?_)
    · refine si_const S dX6_areInOneDrawer_37 ?_
      exact sr_z E hQ (Or.inl rfl) dX6_areInOneDrawer_38 ⟨Nat.le_of_ble_eq_true rfl, Nat.le_of_ble_eq_true rfl⟩ hV (⟨(bI_f (by unfold inO; omega)).symm, rfl, rfl⟩)
    · refine lv_iload_n hx hb dX6_areInOneDrawer_20 rfl (lv_at hl 0 rfl) ?_
      refine lv_aload_n hx hb dX6_areInOneDrawer_21 rfl (lv_at hl 1 rfl) ?_
      refine sc_get (ci := 4) (C := RX6) (T := TX6) (n := 8) S hK hV inX6_ (hst).1 rfl 0 (by decide) (S.2.2.2.2 _ (List.mem_of_getElem? (i := 1) rfl)) rfl rfl dX6_areInOneDrawer_22 ?_
      refine lv_iload_n hx hb dX6_areInOneDrawer_25 rfl (lv_at hl 3 rfl) ?_
      refine si_const S dX6_areInOneDrawer_26 ?_
      refine sk_VP E hV (As := [.int (sI o), .int (sI 5)]) (rest := [.int (sI (f (50 + s)))]) (kTg l_ G b_ M N (a + 1) 7 (f 568) 70 (tvS f) o 5 (f (50 + o)) ((hst).2.1) (by omega) (by omega) (tvS_5 f o)) (cwV 2 S.2.2.2.2 gX6_areInOneDrawer_X8_get rfl rfl rfl (by decide +kernel) ⟨Nat.le_of_ble_eq_true rfl, Nat.le_of_ble_eq_true rfl⟩) (ci := 6) ((hst).2.1).1 rfl rfl rfl hl.1 (Nat.le_of_ble_eq_true rfl) dX6_areInOneDrawer_27 (c1 := 0) (s1 := 0) ⟨⟨rfl, rfl⟩, by decide, by decide⟩ (fun H locs hV => ?_)
      have kn4 : -1 ≤ f (50 + o) ∧ f (50 + o) ≤ 3 := (sOk_S hok o (by omega) (by omega)).2.2.2.2.2.1
      refine sb_ne (tgt := 37) S dX6_areInOneDrawer_30 (by decide) (by omega) (fun c5 => ?_) (fun c5 => ?_)
      · refine si_const S dX6_areInOneDrawer_37 ?_
        exact sr_z E hQ (Or.inl rfl) dX6_areInOneDrawer_38 ⟨Nat.le_of_ble_eq_true rfl, Nat.le_of_ble_eq_true rfl⟩ hV (⟨(bI_f (by unfold inO; omega)).symm, rfl, rfl⟩)
      · refine si_const S dX6_areInOneDrawer_33 ?_
        refine lv_goto (tgt := 38) hx hb dX6_areInOneDrawer_34 (by decide) ?_
        exact sr_z E hQ (Or.inr rfl) dX6_areInOneDrawer_38 ⟨Nat.le_of_ble_eq_true rfl, Nat.le_of_ble_eq_true rfl⟩ hV (⟨(bI_t (by unfold inO; omega)).symm, rfl, rfl⟩)

abbrev rmX6_lieTogether : Room := { frames := 3, cells := 0, slots := 0, locals := 86 }
set_option maxHeartbeats 4000000 in
set_option maxRecDepth 100000 in
theorem kX6_lieTogether (l_ : Launch) (G : sG) (b_ : Nat) (M : sM) (N : Nat) (a : Nat) (f : sF) (p q : Int) (hst : stC G M a f) (hok : sOk f) (hp : sR p ∧ sR q) : cP l_ yX6_lieTogether wsX6_lieTogether rmX6_lieTogether G b_ M N [.ref a, .int (sI p), .int (sI q)] (bI (lieP f p q)) := by
  sorry

abbrev rmX6_whyNot : Room := { frames := 3, cells := 0, slots := 0, locals := 87 }
set_option maxHeartbeats 4000000 in
set_option maxRecDepth 100000 in
theorem kX6_whyNot (l_ : Launch) (G : sG) (b_ : Nat) (M : sM) (N : Nat) (a : Nat) (f : sF) (d : Int) (hst : stC G M a f) (hok : sOk f) (hd : 0 ≤ d ∧ d < 4) : cP l_ yX6_whyNot wsX6_whyNot rmX6_whyNot G b_ M N [.ref a, .int (sI d)] (whyF f d) := by
  sorry

abbrev rmX6_allLieAsTheyMay : Room := { frames := 4, cells := 0, slots := 0, locals := 110 }
set_option maxHeartbeats 4000000 in
set_option maxRecDepth 100000 in
theorem kX6_allLieAsTheyMay (l_ : Launch) (G : sG) (b_ : Nat) (M : sM) (N : Nat) (a : Nat) (f : sF) (hst : stC G M a f) (hok : sOk f) : cP l_ yX6_allLieAsTheyMay wsX6_allLieAsTheyMay rmX6_allLieAsTheyMay G b_ M N [.ref a] (bI (∀ k, 0 ≤ k → k < 4 → whyF f k = 0)) := by
  sorry

abbrev rmX6_copyFrom : Room := { frames := 2, cells := 0, slots := 0, locals := 61 }
set_option maxHeartbeats 4000000 in
set_option maxRecDepth 100000 in
theorem kX6_copyFrom (l_ : Launch) (G : sG) (b_ : Nat) (M : sM) (N : Nat) (a : Nat) (f : sF) (a2 : Nat) (f2 : sF) (hst : stC G M a f) (hst2 : stC G M a2 f2) (hok2 : okN f2) (hne : a + 15 ≤ a2 ∨ a2 + 15 ≤ a) : cV l_ yX6_copyFrom wsX6_copyFrom rmX6_copyFrom G b_ M N [.ref a, .ref a2] (fun M1 N1 => N1 = N ∧ stC G M1 a f2 ∧ (∀ x : Nat, ¬ (a ≤ x ∧ x < a + 15) → M1 x = M x)) := by
  sorry
