theorem idx_st {P : Int → Prop} {i : Int} (h : ∀ k, 0 ≤ k → k < i → ¬ P k) (h2 : ¬ P i) : ∀ k, 0 ≤ k → k < i + 1 → ¬ P k := fun k a b => by
  by_cases hk : k = i
  · rw [hk]; exact h2
  · exact h k a (by omega)

abbrev rmX6_numberOf : Room := { frames := 2, cells := 0, slots := 0, locals := 63 }
set_option maxHeartbeats 4000000 in
set_option maxRecDepth 100000 in
theorem kX6_numberOf (l_ : Launch) (G : sG) (b_ : Nat) (M : sM) (N : Nat) (a : Nat) (f : sF) (c : Int) (hst : stC G M a f) (hok : sOk f) (hc : 0 ≤ c ∧ c < 531441) : cP l_ yX6_numberOf wsX6_numberOf rmX6_numberOf G b_ M N [.ref a, .int (sI (cod c))] (idx (fun q => f q = c) (f 568)) := by
  sorry

abbrev rmX6_placeOf : Room := { frames := 2, cells := 0, slots := 0, locals := 63 }
set_option maxHeartbeats 4000000 in
set_option maxRecDepth 100000 in
theorem kX6_placeOf (l_ : Launch) (G : sG) (b_ : Nat) (M : sM) (N : Nat) (a : Nat) (f : sF) (s : Int) (hst : stC G M a f) (hok : sOk f) (hs : 0 ≤ s ∧ s < f 568) : cP l_ yX6_placeOf wsX6_placeOf rmX6_placeOf G b_ M N [.ref a, .int (sI s)] (isum (f 568) (plT f s)) := by
  sorry

abbrev rmX6_areParted : Room := { frames := 2, cells := 0, slots := 0, locals := 63 }
set_option maxHeartbeats 4000000 in
set_option maxRecDepth 100000 in
theorem kX6_areParted (l_ : Launch) (G : sG) (b_ : Nat) (M : sM) (N : Nat) (a : Nat) (f : sF) (i j : Int) (hst : stC G M a f) (hok : sOk f) (hi : 0 ≤ i ∧ i < 6 ∧ 0 ≤ j ∧ j < 6) : cP l_ yX6_areParted wsX6_areParted rmX6_areParted G b_ M N [.ref a, .int (sI i), .int (sI j)] (bI (tb (f (158 + i)) j)) := by
  sorry

abbrev rmX6_areInOneDrawer : Room := { frames := 2, cells := 0, slots := 0, locals := 63 }
set_option maxHeartbeats 4000000 in
set_option maxRecDepth 100000 in
theorem kX6_areInOneDrawer (l_ : Launch) (G : sG) (b_ : Nat) (M : sM) (N : Nat) (a : Nat) (f : sF) (s o : Int) (hst : stC G M a f) (hok : sOk f) (hs : 0 ≤ s ∧ s < f 568 ∧ 0 ≤ o ∧ o < f 568) : cP l_ yX6_areInOneDrawer wsX6_areInOneDrawer rmX6_areInOneDrawer G b_ M N [.ref a, .int (sI s), .int (sI o)] (bI (inO f s o)) := by
  sorry

abbrev rmX6_lieTogether : Room := { frames := 3, cells := 0, slots := 0, locals := 86 }
set_option maxHeartbeats 4000000 in
set_option maxRecDepth 100000 in
theorem kX6_lieTogether (l_ : Launch) (G : sG) (b_ : Nat) (M : sM) (N : Nat) (a : Nat) (f : sF) (p q : Int) (hst : stC G M a f) (hok : sOk f) (hp : sR p ∧ sR q) : cP l_ yX6_lieTogether wsX6_lieTogether rmX6_lieTogether G b_ M N [.ref a, .int (sI p), .int (sI q)] (bI (lieP f p q)) := by
  sorry

abbrev rmX6_whyNot : Room := { frames := 3, cells := 0, slots := 0, locals := 87 }
set_option maxHeartbeats 4000000 in
set_option maxRecDepth 100000 in
theorem kX6_whyNot (l_ : Launch) (G : sG) (b_ : Nat) (M : sM) (N : Nat) (a : Nat) (f : sF) (d : Int) (hst : stC G M a f) (hok : sOk f) (hd : 0 ≤ d ∧ d < 4) : cP l_ yX6_whyNot wsX6_whyNot rmX6_whyNot G b_ M N [.ref a, .int (sI d)] (whyF f d) := by
  sorry

abbrev rmX6_allLieAsTheyMay : Room := { frames := 4, cells := 0, slots := 0, locals := 110 }
set_option maxHeartbeats 4000000 in
set_option maxRecDepth 100000 in
theorem kX6_allLieAsTheyMay (l_ : Launch) (G : sG) (b_ : Nat) (M : sM) (N : Nat) (a : Nat) (f : sF) (hst : stC G M a f) (hok : sOk f) : cP l_ yX6_allLieAsTheyMay wsX6_allLieAsTheyMay rmX6_allLieAsTheyMay G b_ M N [.ref a] (bI (∀ k, 0 ≤ k → k < 4 → whyF f k = 0)) := by
  sorry

abbrev rmX6_copyFrom : Room := { frames := 2, cells := 0, slots := 0, locals := 61 }
set_option maxHeartbeats 4000000 in
set_option maxRecDepth 100000 in
theorem kX6_copyFrom (l_ : Launch) (G : sG) (b_ : Nat) (M : sM) (N : Nat) (a : Nat) (f : sF) (a2 : Nat) (f2 : sF) (hst : stC G M a f) (hst2 : stC G M a2 f2) (hok2 : okN f2) (hne : a + 15 ≤ a2 ∨ a2 + 15 ≤ a) : cV l_ yX6_copyFrom wsX6_copyFrom rmX6_copyFrom G b_ M N [.ref a, .ref a2] (fun M1 N1 => N1 = N ∧ stC G M1 a f2 ∧ (∀ x : Nat, ¬ (a ≤ x ∧ x < a + 15) → M1 x = M x)) := by
  refine sE.ofV (cc := cX6_copyFrom) (nL := 2) (ret := none) (by decide) rfl (Nat.le_of_ble_eq_true rfl) ?_
  intro p_ e_ s_ m_ args_ below_ meth_ c_ ls Q hQ E hl
  have E : sE p_ l_ e_ rmX6_copyFrom s_ m_ args_ below_ meth_ c_ cX6_copyFrom 2 wsX6_copyFrom RX6 "copyFrom" none G b_ M N := E
  have S := E.1
  have hx := S.1
  have hb := S.2.1
  have hK := E.2.2.2.2.1
  have hV := E.2.2.2.2.2.2
  have hl : lv_has ls 2 [(0, .ref a), (1, .ref a2)] := hl
  have inX6_ : ∀ w ∈ wsX60, w ∈ wsX6_copyFrom := fun _ h => List.mem_cons_of_mem _ (List.mem_append_left _ (List.mem_append_right _ h))
  have inX8_ : ∀ w ∈ wsX80, w ∈ wsX6_copyFrom := fun _ h => List.mem_cons_of_mem _ (List.mem_append_right _ h)
  have hx1 : M a = some (sObj 4 [.ref (a + 1), .ref (a + 3), .ref (a + 5), .ref (a + 7), .ref (a + 9), .ref (a + 11), .ref (a + 13), .int (sI (f 571))]) := (hst).1
  have hx2 : stK G M (a + 1) 7 (f 568) 70 (tvS f) := (hst).2.1
  have hx3 : stK G M (a + 3) 2 (f 569) 80 (tvC f) := (hst).2.2.1
  have hx4 : stK G M (a + 5) 2 4 8 (tvD f) := (hst).2.2.2.1
  have hx5 : stK G M (a + 7) 6 6 36 (tvP f) := (hst).2.2.2.2.1
  have hx6 : stK G M (a + 9) 5 (f 570) 300 (tvT f) := (hst).2.2.2.2.2.1
  have hx7 : stK G M (a + 11) 4 (f 572) 80 (tvW f) := (hst).2.2.2.2.2.2.1
  have hx8 : stK G M (a + 13) 3 (f 573) 24 (tvO f) := (hst).2.2.2.2.2.2.2
  refine lv_aload_n hx hb dX6_copyFrom_0 rfl (lv_at hl 0 rfl) ?_
  refine sc_get (ci := 4) (C := RX6) (T := TX6) (n := 8) S hK hV inX6_ hx1 rfl 0 (by decide) (S.2.2.2.2 _ (List.mem_of_getElem? (i := 1) rfl)) rfl rfl dX6_copyFrom_1 ?_
  refine lv_aload_n hx hb dX6_copyFrom_4 rfl (lv_at hl 1 rfl) ?_
  refine sc_get (ci := 4) (C := RX6) (T := TX6) (n := 8) S hK hV inX6_ (hst2).1 rfl 0 (by decide) (S.2.2.2.2 _ (List.mem_of_getElem? (i := 1) rfl)) rfl rfl dX6_copyFrom_5 ?_
  refine sk_Vv E hV (As := [.ref (a2 + 1)]) (rest := []) (kTk l_ G b_ M N (a + 1) 7 (f 568) 70 (tvS f) (a2 + 1) (f2 568) (tvS f2) hx2 ((hst2).2.1) (by omega) (by omega)) (cwV 1 S.2.2.2.2 gX6_copyFrom_X8_copyFrom rfl rfl rfl (by decide +kernel) ⟨Nat.le_of_ble_eq_true rfl, Nat.le_of_ble_eq_true rfl⟩) (ci := 6) (hx2).1 rfl rfl rfl hl.1 (Nat.le_of_ble_eq_true rfl) dX6_copyFrom_8 (c1 := 0) (s1 := 0) ⟨⟨rfl, rfl⟩, by decide, by decide⟩ (fun M9 N10 H locs hp11 hV => ?_)
  obtain ⟨hN13, hc14, hf15⟩ := hp11
  rw [hN13] at hV
  refine lv_aload_n hx hb dX6_copyFrom_11 rfl (lv_at hl 0 rfl) ?_
  have hc16 : M9 a = some (sObj 4 [.ref (a + 1), .ref (a + 3), .ref (a + 5), .ref (a + 7), .ref (a + 9), .ref (a + 11), .ref (a + 13), .int (sI (f 571))]) := (hf15 a (by omega) (by omega)).trans hx1
  refine sc_get (ci := 4) (C := RX6) (T := TX6) (n := 8) S hK hV inX6_ hc16 rfl 1 (by decide) (S.2.2.2.2 _ (List.mem_of_getElem? (i := 2) rfl)) rfl rfl dX6_copyFrom_12 ?_
  refine lv_aload_n hx hb dX6_copyFrom_15 rfl (lv_at hl 1 rfl) ?_
  have hc17 : stC G M9 a2 f2 := hst2.fr (fun x q8 q9 => hf15 x (by omega) (by omega))
  refine sc_get (ci := 4) (C := RX6) (T := TX6) (n := 8) S hK hV inX6_ (hc17).1 rfl 1 (by decide) (S.2.2.2.2 _ (List.mem_of_getElem? (i := 2) rfl)) rfl rfl dX6_copyFrom_16 ?_
  have hc18 : stK G M9 (a + 3) 2 (f 569) 80 (tvC f) := hx3.fr (fun x q8 q9 => hf15 x (by omega) (by omega))
  refine sk_Vv E hV (As := [.ref (a2 + 3)]) (rest := []) (kTk l_ G b_ M9 N (a + 3) 2 (f 569) 80 (tvC f) (a2 + 3) (f2 569) (tvC f2) hc18 ((hc17).2.2.1) (by omega) (by omega)) (cwV 1 S.2.2.2.2 gX6_copyFrom_X8_copyFrom rfl rfl rfl (by decide +kernel) ⟨Nat.le_of_ble_eq_true rfl, Nat.le_of_ble_eq_true rfl⟩) (ci := 6) (hc18).1 rfl rfl rfl hl.1 (Nat.le_of_ble_eq_true rfl) dX6_copyFrom_19 (c1 := 0) (s1 := 0) ⟨⟨rfl, rfl⟩, by decide, by decide⟩ (fun M19 N20 H locs hp21 hV => ?_)
  obtain ⟨hN23, hc24, hf25⟩ := hp21
  rw [hN23] at hV
  refine lv_aload_n hx hb dX6_copyFrom_22 rfl (lv_at hl 0 rfl) ?_
  have hc26 : M19 a = some (sObj 4 [.ref (a + 1), .ref (a + 3), .ref (a + 5), .ref (a + 7), .ref (a + 9), .ref (a + 11), .ref (a + 13), .int (sI (f 571))]) := (hf25 a (by omega) (by omega)).trans hc16
  refine sc_get (ci := 4) (C := RX6) (T := TX6) (n := 8) S hK hV inX6_ hc26 rfl 2 (by decide) (S.2.2.2.2 _ (List.mem_of_getElem? (i := 3) rfl)) rfl rfl dX6_copyFrom_23 ?_
  refine lv_aload_n hx hb dX6_copyFrom_26 rfl (lv_at hl 1 rfl) ?_
  have hc27 : stC G M19 a2 f2 := hc17.fr (fun x q8 q9 => hf25 x (by omega) (by omega))
  refine sc_get (ci := 4) (C := RX6) (T := TX6) (n := 8) S hK hV inX6_ (hc27).1 rfl 2 (by decide) (S.2.2.2.2 _ (List.mem_of_getElem? (i := 3) rfl)) rfl rfl dX6_copyFrom_27 ?_
  have hc28 : stK G M19 (a + 5) 2 4 8 (tvD f) := hx4.fr (fun x q8 q9 => (hf25 x (by omega) (by omega)).trans (hf15 x (by omega) (by omega)))
  refine sk_Vv E hV (As := [.ref (a2 + 5)]) (rest := []) (kTk l_ G b_ M19 N (a + 5) 2 4 8 (tvD f) (a2 + 5) 4 (tvD f2) hc28 ((hc27).2.2.2.1) (by omega) (by omega)) (cwV 1 S.2.2.2.2 gX6_copyFrom_X8_copyFrom rfl rfl rfl (by decide +kernel) ⟨Nat.le_of_ble_eq_true rfl, Nat.le_of_ble_eq_true rfl⟩) (ci := 6) (hc28).1 rfl rfl rfl hl.1 (Nat.le_of_ble_eq_true rfl) dX6_copyFrom_30 (c1 := 0) (s1 := 0) ⟨⟨rfl, rfl⟩, by decide, by decide⟩ (fun M29 N30 H locs hp31 hV => ?_)
  obtain ⟨hN33, hc34, hf35⟩ := hp31
  rw [hN33] at hV
  refine lv_aload_n hx hb dX6_copyFrom_33 rfl (lv_at hl 0 rfl) ?_
  have hc36 : M29 a = some (sObj 4 [.ref (a + 1), .ref (a + 3), .ref (a + 5), .ref (a + 7), .ref (a + 9), .ref (a + 11), .ref (a + 13), .int (sI (f 571))]) := (hf35 a (by omega) (by omega)).trans hc26
  refine sc_get (ci := 4) (C := RX6) (T := TX6) (n := 8) S hK hV inX6_ hc36 rfl 3 (by decide) (S.2.2.2.2 _ (List.mem_of_getElem? (i := 4) rfl)) rfl rfl dX6_copyFrom_34 ?_
  refine lv_aload_n hx hb dX6_copyFrom_37 rfl (lv_at hl 1 rfl) ?_
  have hc37 : stC G M29 a2 f2 := hc27.fr (fun x q8 q9 => hf35 x (by omega) (by omega))
  refine sc_get (ci := 4) (C := RX6) (T := TX6) (n := 8) S hK hV inX6_ (hc37).1 rfl 3 (by decide) (S.2.2.2.2 _ (List.mem_of_getElem? (i := 4) rfl)) rfl rfl dX6_copyFrom_38 ?_
  have hc38 : stK G M29 (a + 7) 6 6 36 (tvP f) := hx5.fr (fun x q8 q9 => ((hf35 x (by omega) (by omega)).trans (hf25 x (by omega) (by omega))).trans (hf15 x (by omega) (by omega)))
  refine sk_Vv E hV (As := [.ref (a2 + 7)]) (rest := []) (kTk l_ G b_ M29 N (a + 7) 6 6 36 (tvP f) (a2 + 7) 6 (tvP f2) hc38 ((hc37).2.2.2.2.1) (by omega) (by omega)) (cwV 1 S.2.2.2.2 gX6_copyFrom_X8_copyFrom rfl rfl rfl (by decide +kernel) ⟨Nat.le_of_ble_eq_true rfl, Nat.le_of_ble_eq_true rfl⟩) (ci := 6) (hc38).1 rfl rfl rfl hl.1 (Nat.le_of_ble_eq_true rfl) dX6_copyFrom_41 (c1 := 0) (s1 := 0) ⟨⟨rfl, rfl⟩, by decide, by decide⟩ (fun M39 N40 H locs hp41 hV => ?_)
  obtain ⟨hN43, hc44, hf45⟩ := hp41
  rw [hN43] at hV
  refine lv_aload_n hx hb dX6_copyFrom_44 rfl (lv_at hl 0 rfl) ?_
  have hc46 : M39 a = some (sObj 4 [.ref (a + 1), .ref (a + 3), .ref (a + 5), .ref (a + 7), .ref (a + 9), .ref (a + 11), .ref (a + 13), .int (sI (f 571))]) := (hf45 a (by omega) (by omega)).trans hc36
  refine sc_get (ci := 4) (C := RX6) (T := TX6) (n := 8) S hK hV inX6_ hc46 rfl 4 (by decide) (S.2.2.2.2 _ (List.mem_of_getElem? (i := 5) rfl)) rfl rfl dX6_copyFrom_45 ?_
  refine lv_aload_n hx hb dX6_copyFrom_48 rfl (lv_at hl 1 rfl) ?_
  have hc47 : stC G M39 a2 f2 := hc37.fr (fun x q8 q9 => hf45 x (by omega) (by omega))
  refine sc_get (ci := 4) (C := RX6) (T := TX6) (n := 8) S hK hV inX6_ (hc47).1 rfl 4 (by decide) (S.2.2.2.2 _ (List.mem_of_getElem? (i := 5) rfl)) rfl rfl dX6_copyFrom_49 ?_
  have hc48 : stK G M39 (a + 9) 5 (f 570) 300 (tvT f) := hx6.fr (fun x q8 q9 => (((hf45 x (by omega) (by omega)).trans (hf35 x (by omega) (by omega))).trans (hf25 x (by omega) (by omega))).trans (hf15 x (by omega) (by omega)))
  refine sk_Vv E hV (As := [.ref (a2 + 9)]) (rest := []) (kTk l_ G b_ M39 N (a + 9) 5 (f 570) 300 (tvT f) (a2 + 9) (f2 570) (tvT f2) hc48 ((hc47).2.2.2.2.2.1) (by omega) (by omega)) (cwV 1 S.2.2.2.2 gX6_copyFrom_X8_copyFrom rfl rfl rfl (by decide +kernel) ⟨Nat.le_of_ble_eq_true rfl, Nat.le_of_ble_eq_true rfl⟩) (ci := 6) (hc48).1 rfl rfl rfl hl.1 (Nat.le_of_ble_eq_true rfl) dX6_copyFrom_52 (c1 := 0) (s1 := 0) ⟨⟨rfl, rfl⟩, by decide, by decide⟩ (fun M49 N50 H locs hp51 hV => ?_)
  obtain ⟨hN53, hc54, hf55⟩ := hp51
  rw [hN53] at hV
  refine lv_aload_n hx hb dX6_copyFrom_55 rfl (lv_at hl 0 rfl) ?_
  have hc56 : M49 a = some (sObj 4 [.ref (a + 1), .ref (a + 3), .ref (a + 5), .ref (a + 7), .ref (a + 9), .ref (a + 11), .ref (a + 13), .int (sI (f 571))]) := (hf55 a (by omega) (by omega)).trans hc46
  refine sc_get (ci := 4) (C := RX6) (T := TX6) (n := 8) S hK hV inX6_ hc56 rfl 5 (by decide) (S.2.2.2.2 _ (List.mem_of_getElem? (i := 6) rfl)) rfl rfl dX6_copyFrom_56 ?_
  refine lv_aload_n hx hb dX6_copyFrom_59 rfl (lv_at hl 1 rfl) ?_
  have hc57 : stC G M49 a2 f2 := hc47.fr (fun x q8 q9 => hf55 x (by omega) (by omega))
  refine sc_get (ci := 4) (C := RX6) (T := TX6) (n := 8) S hK hV inX6_ (hc57).1 rfl 5 (by decide) (S.2.2.2.2 _ (List.mem_of_getElem? (i := 6) rfl)) rfl rfl dX6_copyFrom_60 ?_
  have hc58 : stK G M49 (a + 11) 4 (f 572) 80 (tvW f) := hx7.fr (fun x q8 q9 => ((((hf55 x (by omega) (by omega)).trans (hf45 x (by omega) (by omega))).trans (hf35 x (by omega) (by omega))).trans (hf25 x (by omega) (by omega))).trans (hf15 x (by omega) (by omega)))
  refine sk_Vv E hV (As := [.ref (a2 + 11)]) (rest := []) (kTk l_ G b_ M49 N (a + 11) 4 (f 572) 80 (tvW f) (a2 + 11) (f2 572) (tvW f2) hc58 ((hc57).2.2.2.2.2.2.1) (by omega) (by omega)) (cwV 1 S.2.2.2.2 gX6_copyFrom_X8_copyFrom rfl rfl rfl (by decide +kernel) ⟨Nat.le_of_ble_eq_true rfl, Nat.le_of_ble_eq_true rfl⟩) (ci := 6) (hc58).1 rfl rfl rfl hl.1 (Nat.le_of_ble_eq_true rfl) dX6_copyFrom_63 (c1 := 0) (s1 := 0) ⟨⟨rfl, rfl⟩, by decide, by decide⟩ (fun M59 N60 H locs hp61 hV => ?_)
  obtain ⟨hN63, hc64, hf65⟩ := hp61
  rw [hN63] at hV
  refine lv_aload_n hx hb dX6_copyFrom_66 rfl (lv_at hl 0 rfl) ?_
  have hc66 : M59 a = some (sObj 4 [.ref (a + 1), .ref (a + 3), .ref (a + 5), .ref (a + 7), .ref (a + 9), .ref (a + 11), .ref (a + 13), .int (sI (f 571))]) := (hf65 a (by omega) (by omega)).trans hc56
  refine sc_get (ci := 4) (C := RX6) (T := TX6) (n := 8) S hK hV inX6_ hc66 rfl 6 (by decide) (S.2.2.2.2 _ (List.mem_of_getElem? (i := 7) rfl)) rfl rfl dX6_copyFrom_67 ?_
  refine lv_aload_n hx hb dX6_copyFrom_70 rfl (lv_at hl 1 rfl) ?_
  have hc67 : stC G M59 a2 f2 := hc57.fr (fun x q8 q9 => hf65 x (by omega) (by omega))
  refine sc_get (ci := 4) (C := RX6) (T := TX6) (n := 8) S hK hV inX6_ (hc67).1 rfl 6 (by decide) (S.2.2.2.2 _ (List.mem_of_getElem? (i := 7) rfl)) rfl rfl dX6_copyFrom_71 ?_
  have hc68 : stK G M59 (a + 13) 3 (f 573) 24 (tvO f) := hx8.fr (fun x q8 q9 => (((((hf65 x (by omega) (by omega)).trans (hf55 x (by omega) (by omega))).trans (hf45 x (by omega) (by omega))).trans (hf35 x (by omega) (by omega))).trans (hf25 x (by omega) (by omega))).trans (hf15 x (by omega) (by omega)))
  refine sk_Vv E hV (As := [.ref (a2 + 13)]) (rest := []) (kTk l_ G b_ M59 N (a + 13) 3 (f 573) 24 (tvO f) (a2 + 13) (f2 573) (tvO f2) hc68 ((hc67).2.2.2.2.2.2.2) (by omega) (by omega)) (cwV 1 S.2.2.2.2 gX6_copyFrom_X8_copyFrom rfl rfl rfl (by decide +kernel) ⟨Nat.le_of_ble_eq_true rfl, Nat.le_of_ble_eq_true rfl⟩) (ci := 6) (hc68).1 rfl rfl rfl hl.1 (Nat.le_of_ble_eq_true rfl) dX6_copyFrom_74 (c1 := 0) (s1 := 0) ⟨⟨rfl, rfl⟩, by decide, by decide⟩ (fun M69 N70 H locs hp71 hV => ?_)
  obtain ⟨hN73, hc74, hf75⟩ := hp71
  rw [hN73] at hV
  refine lv_aload_n hx hb dX6_copyFrom_77 rfl (lv_at hl 0 rfl) ?_
  refine lv_aload_n hx hb dX6_copyFrom_78 rfl (lv_at hl 1 rfl) ?_
  have hc76 : stC G M69 a2 f2 := hc67.fr (fun x q8 q9 => hf75 x (by omega) (by omega))
  refine sc_get (ci := 4) (C := RX6) (T := TX6) (n := 8) S hK hV inX6_ (hc76).1 rfl 7 (by decide) (S.2.2.2.2 _ (List.mem_of_getElem? (i := 8) rfl)) rfl rfl dX6_copyFrom_79 ?_
  have hc77 : M69 a = some (sObj 4 [.ref (a + 1), .ref (a + 3), .ref (a + 5), .ref (a + 7), .ref (a + 9), .ref (a + 11), .ref (a + 13), .int (sI (f 571))]) := (hf75 a (by omega) (by omega)).trans hc66
  refine sc_put (ci := 4) (C := RX6) (T := TX6) (n := 8) S hK hV inX6_ tyX6_ok nmX6 hc77 rfl 7 (by decide) (S.2.2.2.2 _ (List.mem_of_getElem? (i := 8) rfl)) rfl rfl rfl rfl (Nat.le_of_ble_eq_true rfl) dX6_copyFrom_82 (fs1 := [.ref (a + 1), .ref (a + 3), .ref (a + 5), .ref (a + 7), .ref (a + 9), .ref (a + 11), .ref (a + 13), .int (sI (f2 571))]) rfl (fun M78 H locs hM78 hV => ?_)
  have hc79 : M78 a = some (sObj 4 [.ref (a + 1), .ref (a + 3), .ref (a + 5), .ref (a + 7), .ref (a + 9), .ref (a + 11), .ref (a + 13), .int (sI (f2 571))]) := (congrFun hM78 a).trans (va_up_self M69 a _)
  have hc80 : stK G M78 (a + 1) 7 (f2 568) 70 (tvS f2) := hc14.fr (fun x q8 q9 => (((((((congrFun hM78 x).trans (va_up_ne M69 _ (by omega))).trans (hf75 x (by omega) (by omega))).trans (hf65 x (by omega) (by omega))).trans (hf55 x (by omega) (by omega))).trans (hf45 x (by omega) (by omega))).trans (hf35 x (by omega) (by omega))).trans (hf25 x (by omega) (by omega)))
  have hc81 : stK G M78 (a + 3) 2 (f2 569) 80 (tvC f2) := hc24.fr (fun x q8 q9 => ((((((congrFun hM78 x).trans (va_up_ne M69 _ (by omega))).trans (hf75 x (by omega) (by omega))).trans (hf65 x (by omega) (by omega))).trans (hf55 x (by omega) (by omega))).trans (hf45 x (by omega) (by omega))).trans (hf35 x (by omega) (by omega)))
  have hc82 : stK G M78 (a + 5) 2 4 8 (tvD f2) := hc34.fr (fun x q8 q9 => (((((congrFun hM78 x).trans (va_up_ne M69 _ (by omega))).trans (hf75 x (by omega) (by omega))).trans (hf65 x (by omega) (by omega))).trans (hf55 x (by omega) (by omega))).trans (hf45 x (by omega) (by omega)))
  have hc83 : stK G M78 (a + 7) 6 6 36 (tvP f2) := hc44.fr (fun x q8 q9 => ((((congrFun hM78 x).trans (va_up_ne M69 _ (by omega))).trans (hf75 x (by omega) (by omega))).trans (hf65 x (by omega) (by omega))).trans (hf55 x (by omega) (by omega)))
  have hc84 : stK G M78 (a + 9) 5 (f2 570) 300 (tvT f2) := hc54.fr (fun x q8 q9 => (((congrFun hM78 x).trans (va_up_ne M69 _ (by omega))).trans (hf75 x (by omega) (by omega))).trans (hf65 x (by omega) (by omega)))
  have hc85 : stK G M78 (a + 11) 4 (f2 572) 80 (tvW f2) := hc64.fr (fun x q8 q9 => ((congrFun hM78 x).trans (va_up_ne M69 _ (by omega))).trans (hf75 x (by omega) (by omega)))
  have hc86 : stK G M78 (a + 13) 3 (f2 573) 24 (tvO f2) := hc74.fr (fun x q8 q9 => (congrFun hM78 x).trans (va_up_ne M69 _ (by omega)))
  exact sr_v E hQ dX6_copyFrom_85 ⟨Nat.le_of_ble_eq_true rfl, Nat.le_of_ble_eq_true rfl⟩ hV (⟨rfl, ⟨hc79, hc80, hc81, hc82, hc83, hc84, hc85, hc86⟩, fun x q0 => ((((((((congrFun hM78 x).trans (va_up_ne M69 _ (by omega))).trans (hf75 x (by omega) (by omega))).trans (hf65 x (by omega) (by omega))).trans (hf55 x (by omega) (by omega))).trans (hf45 x (by omega) (by omega))).trans (hf35 x (by omega) (by omega))).trans (hf25 x (by omega) (by omega))).trans (hf15 x (by omega) (by omega))⟩)
