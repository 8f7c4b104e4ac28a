abbrev rmX6_init : Room := { frames := 3, cells := 14, slots := 2821, locals := 84 }
set_option maxHeartbeats 4000000 in
set_option maxRecDepth 100000 in
theorem kX6_init (l_ : Launch) (G : sG) (b_ : Nat) (M : sM) (N : Nat) (a : Nat) (x7 : Int) (ha : M a = some (sObj 4 [.null, .null, .null, .null, .null, .null, .null, .int (sI x7)])) (hN : N = a + 1) : cV l_ yX6_init wsX6_init rmX6_init G b_ M N [.ref a] (fun M1 N1 => N1 = N + 14 ∧ stC G M1 a f0 ∧ (∀ x : Nat, ¬ (a ≤ x ∧ x < a + 15) → M1 x = M x)) := by
  refine sE.ofV (cc := cX6_init) (nL := 2) (ret := none) (by decide) rfl (Nat.le_of_ble_eq_true rfl) ?_
  intro p_ e_ s_ m_ args_ below_ meth_ c_ ls Q hQ E hl
  have E : sE p_ l_ e_ rmX6_init s_ m_ args_ below_ meth_ c_ cX6_init 2 wsX6_init RX6 "<init>" none G b_ M N := E
  have S := E.1
  have hx_ := S.1
  have hb_ := S.2.1
  have hK := E.2.2.2.2.1
  have hV := E.2.2.2.2.2.2
  have hnm := E.2.2.2.1
  have hl : lv_has ls 2 [(0, .ref a)] := hl
  have inX8_ : ∀ w ∈ wsX80, w ∈ wsX6_init := fun _ h => List.mem_cons_of_mem _ (List.mem_append_left _ (List.mem_append_right _ h))
  have inX6_ : ∀ w ∈ wsX60, w ∈ wsX6_init := fun _ h => List.mem_cons_of_mem _ (List.mem_append_right _ h)
  have hbN : b_ ≤ N := by have h1 := hV.1.1; have h2 := hV.2.2; omega
  subst hN
  refine lv_aload_n hx_ hb_ dX6_init_0 rfl (lv_at hl 0 rfl) ?_
  refine W.objInit hx_ hb_ S.2.2.2.1 (S.2.2.2.2 _ (List.mem_of_getElem? (i := 1) rfl)) (S.2.2.2.2 _ (List.mem_of_getElem? (i := 2) rfl)) (S.2.2.2.2 _ (List.mem_of_getElem? (i := 3) rfl)) rfl (by rw [S.2.2.1]; exact hl.1) rfl dX6_init_1 (Nat.le_of_ble_eq_true rfl) (Nat.le_of_ble_eq_true rfl) ?_
  refine W.eq (g2 := F0 m_ 4 ls []) rfl ?_
  refine lv_aload_n hx_ hb_ dX6_init_4 rfl (lv_at hl 0 rfl) ?_
  refine sc_newo (ci := 6) (C := RX8) (T := TX8) (n := 3) (fs := [.int (sI 0), .null, .int (sI 0)]) S hK hV inX8_ tyX8_ok (S.2.2.2.2 _ (List.mem_of_getElem? (i := 4) rfl)) (S.2.2.2.2 _ (List.mem_of_getElem? (i := 5) rfl)) (S.2.2.2.2 _ (List.mem_of_getElem? (i := 6) rfl)) rfl (fun j hj => by rcases (show j = 0 ∨ j = 1 ∨ j = 2 by omega) with rfl | rfl | rfl <;> rfl) ⟨by decide, by decide⟩ dX6_init_5 (fun M1 H locs hM1 hV => ?_)
  have hc2 : M1 (a + 1) = some (sObj 6 [.int (sI 0), .null, .int (sI 0)]) := (congrFun hM1 (a + 1)).trans (va_up_self M (a + 1) _)
  refine lv_dup hx_ hb_ dX6_init_8 rfl ?_
  refine si_bipush S dX6_init_9 (by decide) ?_
  refine si_bipush S dX6_init_11 (by decide) ?_
  refine sk_I E hV (As := [.int (sI 10), .int (sI 7)]) (rest := [.ref (a + 1), .ref a]) (kTi l_ G b_ M1 (a + 2) (a + 1) 10 7 0 0 70 (tvS f0) hc2 (rfl) (by decide) (by decide)) (cwI 2 S.2.2.2.2 gX6_init_X8_init rfl rfl rfl (S.2.2.2.2 _ (List.mem_of_getElem? (i := 6) rfl)) (S.2.2.2.2 _ (List.mem_of_getElem? (i := 15) rfl)) (S.2.2.2.2 _ (List.mem_of_getElem? (i := 16) rfl)) rfl (by decide +kernel) ⟨Nat.le_of_ble_eq_true rfl, Nat.le_of_ble_eq_true rfl⟩) rfl rfl hl.1 (Nat.le_of_ble_eq_true rfl) dX6_init_13 (c1 := 2) (s1 := 403) ⟨⟨rfl, rfl⟩, by decide, by decide⟩ (fun M3 N4 H locs hp5 hV => ?_)
  obtain ⟨hN7, hc8, hf9⟩ := hp5
  subst hN7
  have hc10 : M3 a = some (sObj 4 [.null, .null, .null, .null, .null, .null, .null, .int (sI x7)]) := ((hf9 a (by omega) (by omega)).trans ((congrFun hM1 a).trans (va_up_ne M _ (by omega)))).trans ha
  refine sc_putF (ci := 4) (C := RX6) (T := TX6) (n := 8) S hK hV inX6_ tyX6_ok nmX6 hc10 rfl 0 (by decide) (S.2.2.2.2 _ (List.mem_of_getElem? (i := 7) rfl)) rfl rfl hnm rfl rfl rfl (Nat.le_of_ble_eq_true rfl) dX6_init_16 (fs1 := [.ref (a + 1), .null, .null, .null, .null, .null, .null, .int (sI x7)]) rfl (fun M11 H locs hM11 hV => ?_)
  have hc12 : M11 a = some (sObj 4 [.ref (a + 1), .null, .null, .null, .null, .null, .null, .int (sI x7)]) := (congrFun hM11 a).trans (va_up_self M3 a _)
  refine lv_aload_n hx_ hb_ dX6_init_19 rfl (lv_at hl 0 rfl) ?_
  refine sc_newo (ci := 6) (C := RX8) (T := TX8) (n := 3) (fs := [.int (sI 0), .null, .int (sI 0)]) S hK hV inX8_ tyX8_ok (S.2.2.2.2 _ (List.mem_of_getElem? (i := 4) rfl)) (S.2.2.2.2 _ (List.mem_of_getElem? (i := 5) rfl)) (S.2.2.2.2 _ (List.mem_of_getElem? (i := 6) rfl)) rfl (fun j hj => by rcases (show j = 0 ∨ j = 1 ∨ j = 2 by omega) with rfl | rfl | rfl <;> rfl) ⟨by decide, by decide⟩ dX6_init_20 (fun M13 H locs hM13 hV => ?_)
  have hc14 : M13 (a + 3) = some (sObj 6 [.int (sI 0), .null, .int (sI 0)]) := (congrFun hM13 (a + 3)).trans (va_up_self M11 (a + 3) _)
  refine lv_dup hx_ hb_ dX6_init_23 rfl ?_
  refine si_bipush S dX6_init_24 (by decide) ?_
  refine si_const S dX6_init_26 ?_
  refine sk_I E hV (As := [.int (sI 40), .int (sI 2)]) (rest := [.ref (a + 3), .ref a]) (kTi l_ G b_ M13 (a + 4) (a + 3) 40 2 0 0 80 (tvC f0) hc14 (rfl) (by decide) (by decide)) (cwI 2 S.2.2.2.2 gX6_init_X8_init rfl rfl rfl (S.2.2.2.2 _ (List.mem_of_getElem? (i := 6) rfl)) (S.2.2.2.2 _ (List.mem_of_getElem? (i := 15) rfl)) (S.2.2.2.2 _ (List.mem_of_getElem? (i := 16) rfl)) rfl (by decide +kernel) ⟨Nat.le_of_ble_eq_true rfl, Nat.le_of_ble_eq_true rfl⟩) rfl rfl hl.1 (Nat.le_of_ble_eq_true rfl) dX6_init_27 (c1 := 4) (s1 := 806) ⟨⟨rfl, rfl⟩, by decide, by decide⟩ (fun M15 N16 H locs hp17 hV => ?_)
  obtain ⟨hN19, hc20, hf21⟩ := hp17
  subst hN19
  have hc22 : M15 a = some (sObj 4 [.ref (a + 1), .null, .null, .null, .null, .null, .null, .int (sI x7)]) := ((hf21 a (by omega) (by omega)).trans ((congrFun hM13 a).trans (va_up_ne M11 _ (by omega)))).trans hc12
  refine sc_putF (ci := 4) (C := RX6) (T := TX6) (n := 8) S hK hV inX6_ tyX6_ok nmX6 hc22 rfl 1 (by decide) (S.2.2.2.2 _ (List.mem_of_getElem? (i := 8) rfl)) rfl rfl hnm rfl rfl rfl (Nat.le_of_ble_eq_true rfl) dX6_init_30 (fs1 := [.ref (a + 1), .ref (a + 3), .null, .null, .null, .null, .null, .int (sI x7)]) rfl (fun M23 H locs hM23 hV => ?_)
  have hc24 : M23 a = some (sObj 4 [.ref (a + 1), .ref (a + 3), .null, .null, .null, .null, .null, .int (sI x7)]) := (congrFun hM23 a).trans (va_up_self M15 a _)
  refine lv_aload_n hx_ hb_ dX6_init_33 rfl (lv_at hl 0 rfl) ?_
  refine sc_newo (ci := 6) (C := RX8) (T := TX8) (n := 3) (fs := [.int (sI 0), .null, .int (sI 0)]) S hK hV inX8_ tyX8_ok (S.2.2.2.2 _ (List.mem_of_getElem? (i := 4) rfl)) (S.2.2.2.2 _ (List.mem_of_getElem? (i := 5) rfl)) (S.2.2.2.2 _ (List.mem_of_getElem? (i := 6) rfl)) rfl (fun j hj => by rcases (show j = 0 ∨ j = 1 ∨ j = 2 by omega) with rfl | rfl | rfl <;> rfl) ⟨by decide, by decide⟩ dX6_init_34 (fun M25 H locs hM25 hV => ?_)
  have hc26 : M25 (a + 5) = some (sObj 6 [.int (sI 0), .null, .int (sI 0)]) := (congrFun hM25 (a + 5)).trans (va_up_self M23 (a + 5) _)
  refine lv_dup hx_ hb_ dX6_init_37 rfl ?_
  refine si_const S dX6_init_38 ?_
  refine si_const S dX6_init_39 ?_
  refine sk_I E hV (As := [.int (sI 4), .int (sI 2)]) (rest := [.ref (a + 5), .ref a]) (kTi l_ G b_ M25 (a + 6) (a + 5) 4 2 0 0 8 (tvD f0) hc26 (rfl) (by decide) (by decide)) (cwI 2 S.2.2.2.2 gX6_init_X8_init rfl rfl rfl (S.2.2.2.2 _ (List.mem_of_getElem? (i := 6) rfl)) (S.2.2.2.2 _ (List.mem_of_getElem? (i := 15) rfl)) (S.2.2.2.2 _ (List.mem_of_getElem? (i := 16) rfl)) rfl (by decide +kernel) ⟨Nat.le_of_ble_eq_true rfl, Nat.le_of_ble_eq_true rfl⟩) rfl rfl hl.1 (Nat.le_of_ble_eq_true rfl) dX6_init_40 (c1 := 6) (s1 := 1209) ⟨⟨rfl, rfl⟩, by decide, by decide⟩ (fun M27 N28 H locs hp29 hV => ?_)
  obtain ⟨hN31, hc32, hf33⟩ := hp29
  subst hN31
  have hc34 : M27 a = some (sObj 4 [.ref (a + 1), .ref (a + 3), .null, .null, .null, .null, .null, .int (sI x7)]) := ((hf33 a (by omega) (by omega)).trans ((congrFun hM25 a).trans (va_up_ne M23 _ (by omega)))).trans hc24
  refine sc_putF (ci := 4) (C := RX6) (T := TX6) (n := 8) S hK hV inX6_ tyX6_ok nmX6 hc34 rfl 2 (by decide) (S.2.2.2.2 _ (List.mem_of_getElem? (i := 9) rfl)) rfl rfl hnm rfl rfl rfl (Nat.le_of_ble_eq_true rfl) dX6_init_43 (fs1 := [.ref (a + 1), .ref (a + 3), .ref (a + 5), .null, .null, .null, .null, .int (sI x7)]) rfl (fun M35 H locs hM35 hV => ?_)
  have hc36 : M35 a = some (sObj 4 [.ref (a + 1), .ref (a + 3), .ref (a + 5), .null, .null, .null, .null, .int (sI x7)]) := (congrFun hM35 a).trans (va_up_self M27 a _)
  refine lv_aload_n hx_ hb_ dX6_init_46 rfl (lv_at hl 0 rfl) ?_
  refine sc_newo (ci := 6) (C := RX8) (T := TX8) (n := 3) (fs := [.int (sI 0), .null, .int (sI 0)]) S hK hV inX8_ tyX8_ok (S.2.2.2.2 _ (List.mem_of_getElem? (i := 4) rfl)) (S.2.2.2.2 _ (List.mem_of_getElem? (i := 5) rfl)) (S.2.2.2.2 _ (List.mem_of_getElem? (i := 6) rfl)) rfl (fun j hj => by rcases (show j = 0 ∨ j = 1 ∨ j = 2 by omega) with rfl | rfl | rfl <;> rfl) ⟨by decide, by decide⟩ dX6_init_47 (fun M37 H locs hM37 hV => ?_)
  have hc38 : M37 (a + 7) = some (sObj 6 [.int (sI 0), .null, .int (sI 0)]) := (congrFun hM37 (a + 7)).trans (va_up_self M35 (a + 7) _)
  refine lv_dup hx_ hb_ dX6_init_50 rfl ?_
  refine si_bipush S dX6_init_51 (by decide) ?_
  refine si_bipush S dX6_init_53 (by decide) ?_
  refine sk_I E hV (As := [.int (sI 6), .int (sI 6)]) (rest := [.ref (a + 7), .ref a]) (kTi l_ G b_ M37 (a + 8) (a + 7) 6 6 0 0 36 (tvP f0) hc38 (rfl) (by decide) (by decide)) (cwI 2 S.2.2.2.2 gX6_init_X8_init rfl rfl rfl (S.2.2.2.2 _ (List.mem_of_getElem? (i := 6) rfl)) (S.2.2.2.2 _ (List.mem_of_getElem? (i := 15) rfl)) (S.2.2.2.2 _ (List.mem_of_getElem? (i := 16) rfl)) rfl (by decide +kernel) ⟨Nat.le_of_ble_eq_true rfl, Nat.le_of_ble_eq_true rfl⟩) rfl rfl hl.1 (Nat.le_of_ble_eq_true rfl) dX6_init_55 (c1 := 8) (s1 := 1612) ⟨⟨rfl, rfl⟩, by decide, by decide⟩ (fun M39 N40 H locs hp41 hV => ?_)
  obtain ⟨hN43, hc44, hf45⟩ := hp41
  subst hN43
  have hc46 : M39 a = some (sObj 4 [.ref (a + 1), .ref (a + 3), .ref (a + 5), .null, .null, .null, .null, .int (sI x7)]) := ((hf45 a (by omega) (by omega)).trans ((congrFun hM37 a).trans (va_up_ne M35 _ (by omega)))).trans hc36
  refine sc_putF (ci := 4) (C := RX6) (T := TX6) (n := 8) S hK hV inX6_ tyX6_ok nmX6 hc46 rfl 3 (by decide) (S.2.2.2.2 _ (List.mem_of_getElem? (i := 10) rfl)) rfl rfl hnm rfl rfl rfl (Nat.le_of_ble_eq_true rfl) dX6_init_58 (fs1 := [.ref (a + 1), .ref (a + 3), .ref (a + 5), .ref (a + 7), .null, .null, .null, .int (sI x7)]) rfl (fun M47 H locs hM47 hV => ?_)
  have hc48 : M47 a = some (sObj 4 [.ref (a + 1), .ref (a + 3), .ref (a + 5), .ref (a + 7), .null, .null, .null, .int (sI x7)]) := (congrFun hM47 a).trans (va_up_self M39 a _)
  refine lv_aload_n hx_ hb_ dX6_init_61 rfl (lv_at hl 0 rfl) ?_
  refine sc_newo (ci := 6) (C := RX8) (T := TX8) (n := 3) (fs := [.int (sI 0), .null, .int (sI 0)]) S hK hV inX8_ tyX8_ok (S.2.2.2.2 _ (List.mem_of_getElem? (i := 4) rfl)) (S.2.2.2.2 _ (List.mem_of_getElem? (i := 5) rfl)) (S.2.2.2.2 _ (List.mem_of_getElem? (i := 6) rfl)) rfl (fun j hj => by rcases (show j = 0 ∨ j = 1 ∨ j = 2 by omega) with rfl | rfl | rfl <;> rfl) ⟨by decide, by decide⟩ dX6_init_62 (fun M49 H locs hM49 hV => ?_)
  have hc50 : M49 (a + 9) = some (sObj 6 [.int (sI 0), .null, .int (sI 0)]) := (congrFun hM49 (a + 9)).trans (va_up_self M47 (a + 9) _)
  refine lv_dup hx_ hb_ dX6_init_65 rfl ?_
  refine si_bipush S dX6_init_66 (by decide) ?_
  refine si_const S dX6_init_68 ?_
  refine sk_I E hV (As := [.int (sI 60), .int (sI 5)]) (rest := [.ref (a + 9), .ref a]) (kTi l_ G b_ M49 (a + 10) (a + 9) 60 5 0 0 300 (tvT f0) hc50 (rfl) (by decide) (by decide)) (cwI 2 S.2.2.2.2 gX6_init_X8_init rfl rfl rfl (S.2.2.2.2 _ (List.mem_of_getElem? (i := 6) rfl)) (S.2.2.2.2 _ (List.mem_of_getElem? (i := 15) rfl)) (S.2.2.2.2 _ (List.mem_of_getElem? (i := 16) rfl)) rfl (by decide +kernel) ⟨Nat.le_of_ble_eq_true rfl, Nat.le_of_ble_eq_true rfl⟩) rfl rfl hl.1 (Nat.le_of_ble_eq_true rfl) dX6_init_69 (c1 := 10) (s1 := 2015) ⟨⟨rfl, rfl⟩, by decide, by decide⟩ (fun M51 N52 H locs hp53 hV => ?_)
  obtain ⟨hN55, hc56, hf57⟩ := hp53
  subst hN55
  have hc58 : M51 a = some (sObj 4 [.ref (a + 1), .ref (a + 3), .ref (a + 5), .ref (a + 7), .null, .null, .null, .int (sI x7)]) := ((hf57 a (by omega) (by omega)).trans ((congrFun hM49 a).trans (va_up_ne M47 _ (by omega)))).trans hc48
  refine sc_putF (ci := 4) (C := RX6) (T := TX6) (n := 8) S hK hV inX6_ tyX6_ok nmX6 hc58 rfl 4 (by decide) (S.2.2.2.2 _ (List.mem_of_getElem? (i := 11) rfl)) rfl rfl hnm rfl rfl rfl (Nat.le_of_ble_eq_true rfl) dX6_init_72 (fs1 := [.ref (a + 1), .ref (a + 3), .ref (a + 5), .ref (a + 7), .ref (a + 9), .null, .null, .int (sI x7)]) rfl (fun M59 H locs hM59 hV => ?_)
  have hc60 : M59 a = some (sObj 4 [.ref (a + 1), .ref (a + 3), .ref (a + 5), .ref (a + 7), .ref (a + 9), .null, .null, .int (sI x7)]) := (congrFun hM59 a).trans (va_up_self M51 a _)
  refine lv_aload_n hx_ hb_ dX6_init_75 rfl (lv_at hl 0 rfl) ?_
  refine sc_newo (ci := 6) (C := RX8) (T := TX8) (n := 3) (fs := [.int (sI 0), .null, .int (sI 0)]) S hK hV inX8_ tyX8_ok (S.2.2.2.2 _ (List.mem_of_getElem? (i := 4) rfl)) (S.2.2.2.2 _ (List.mem_of_getElem? (i := 5) rfl)) (S.2.2.2.2 _ (List.mem_of_getElem? (i := 6) rfl)) rfl (fun j hj => by rcases (show j = 0 ∨ j = 1 ∨ j = 2 by omega) with rfl | rfl | rfl <;> rfl) ⟨by decide, by decide⟩ dX6_init_76 (fun M61 H locs hM61 hV => ?_)
  have hc62 : M61 (a + 11) = some (sObj 6 [.int (sI 0), .null, .int (sI 0)]) := (congrFun hM61 (a + 11)).trans (va_up_self M59 (a + 11) _)
  refine lv_dup hx_ hb_ dX6_init_79 rfl ?_
  refine si_bipush S dX6_init_80 (by decide) ?_
  refine si_const S dX6_init_82 ?_
  refine sk_I E hV (As := [.int (sI 20), .int (sI 4)]) (rest := [.ref (a + 11), .ref a]) (kTi l_ G b_ M61 (a + 12) (a + 11) 20 4 0 0 80 (tvW f0) hc62 (rfl) (by decide) (by decide)) (cwI 2 S.2.2.2.2 gX6_init_X8_init rfl rfl rfl (S.2.2.2.2 _ (List.mem_of_getElem? (i := 6) rfl)) (S.2.2.2.2 _ (List.mem_of_getElem? (i := 15) rfl)) (S.2.2.2.2 _ (List.mem_of_getElem? (i := 16) rfl)) rfl (by decide +kernel) ⟨Nat.le_of_ble_eq_true rfl, Nat.le_of_ble_eq_true rfl⟩) rfl rfl hl.1 (Nat.le_of_ble_eq_true rfl) dX6_init_83 (c1 := 12) (s1 := 2418) ⟨⟨rfl, rfl⟩, by decide, by decide⟩ (fun M63 N64 H locs hp65 hV => ?_)
  obtain ⟨hN67, hc68, hf69⟩ := hp65
  subst hN67
  have hc70 : M63 a = some (sObj 4 [.ref (a + 1), .ref (a + 3), .ref (a + 5), .ref (a + 7), .ref (a + 9), .null, .null, .int (sI x7)]) := ((hf69 a (by omega) (by omega)).trans ((congrFun hM61 a).trans (va_up_ne M59 _ (by omega)))).trans hc60
  refine sc_putF (ci := 4) (C := RX6) (T := TX6) (n := 8) S hK hV inX6_ tyX6_ok nmX6 hc70 rfl 5 (by decide) (S.2.2.2.2 _ (List.mem_of_getElem? (i := 12) rfl)) rfl rfl hnm rfl rfl rfl (Nat.le_of_ble_eq_true rfl) dX6_init_86 (fs1 := [.ref (a + 1), .ref (a + 3), .ref (a + 5), .ref (a + 7), .ref (a + 9), .ref (a + 11), .null, .int (sI x7)]) rfl (fun M71 H locs hM71 hV => ?_)
  have hc72 : M71 a = some (sObj 4 [.ref (a + 1), .ref (a + 3), .ref (a + 5), .ref (a + 7), .ref (a + 9), .ref (a + 11), .null, .int (sI x7)]) := (congrFun hM71 a).trans (va_up_self M63 a _)
  refine lv_aload_n hx_ hb_ dX6_init_89 rfl (lv_at hl 0 rfl) ?_
  refine sc_newo (ci := 6) (C := RX8) (T := TX8) (n := 3) (fs := [.int (sI 0), .null, .int (sI 0)]) S hK hV inX8_ tyX8_ok (S.2.2.2.2 _ (List.mem_of_getElem? (i := 4) rfl)) (S.2.2.2.2 _ (List.mem_of_getElem? (i := 5) rfl)) (S.2.2.2.2 _ (List.mem_of_getElem? (i := 6) rfl)) rfl (fun j hj => by rcases (show j = 0 ∨ j = 1 ∨ j = 2 by omega) with rfl | rfl | rfl <;> rfl) ⟨by decide, by decide⟩ dX6_init_90 (fun M73 H locs hM73 hV => ?_)
  have hc74 : M73 (a + 13) = some (sObj 6 [.int (sI 0), .null, .int (sI 0)]) := (congrFun hM73 (a + 13)).trans (va_up_self M71 (a + 13) _)
  refine lv_dup hx_ hb_ dX6_init_93 rfl ?_
  refine si_bipush S dX6_init_94 (by decide) ?_
  refine si_const S dX6_init_96 ?_
  refine sk_I E hV (As := [.int (sI 8), .int (sI 3)]) (rest := [.ref (a + 13), .ref a]) (kTi l_ G b_ M73 (a + 14) (a + 13) 8 3 0 0 24 (tvO f0) hc74 (rfl) (by decide) (by decide)) (cwI 2 S.2.2.2.2 gX6_init_X8_init rfl rfl rfl (S.2.2.2.2 _ (List.mem_of_getElem? (i := 6) rfl)) (S.2.2.2.2 _ (List.mem_of_getElem? (i := 15) rfl)) (S.2.2.2.2 _ (List.mem_of_getElem? (i := 16) rfl)) rfl (by decide +kernel) ⟨Nat.le_of_ble_eq_true rfl, Nat.le_of_ble_eq_true rfl⟩) rfl rfl hl.1 (Nat.le_of_ble_eq_true rfl) dX6_init_97 (c1 := 14) (s1 := 2821) ⟨⟨rfl, rfl⟩, by decide, by decide⟩ (fun M75 N76 H locs hp77 hV => ?_)
  obtain ⟨hN79, hc80, hf81⟩ := hp77
  subst hN79
  have hc82 : M75 a = some (sObj 4 [.ref (a + 1), .ref (a + 3), .ref (a + 5), .ref (a + 7), .ref (a + 9), .ref (a + 11), .null, .int (sI x7)]) := ((hf81 a (by omega) (by omega)).trans ((congrFun hM73 a).trans (va_up_ne M71 _ (by omega)))).trans hc72
  refine sc_putF (ci := 4) (C := RX6) (T := TX6) (n := 8) S hK hV inX6_ tyX6_ok nmX6 hc82 rfl 6 (by decide) (S.2.2.2.2 _ (List.mem_of_getElem? (i := 13) rfl)) rfl rfl hnm rfl rfl rfl (Nat.le_of_ble_eq_true rfl) dX6_init_100 (fs1 := [.ref (a + 1), .ref (a + 3), .ref (a + 5), .ref (a + 7), .ref (a + 9), .ref (a + 11), .ref (a + 13), .int (sI x7)]) rfl (fun M83 H locs hM83 hV => ?_)
  have hc84 : M83 a = some (sObj 4 [.ref (a + 1), .ref (a + 3), .ref (a + 5), .ref (a + 7), .ref (a + 9), .ref (a + 11), .ref (a + 13), .int (sI x7)]) := (congrFun hM83 a).trans (va_up_self M75 a _)
  refine lv_aload_n hx_ hb_ dX6_init_103 rfl (lv_at hl 0 rfl) ?_
  refine si_const S dX6_init_104 ?_
  refine sc_put (ci := 4) (C := RX6) (T := TX6) (n := 8) S hK hV inX6_ tyX6_ok nmX6 hc84 rfl 7 (by decide) (S.2.2.2.2 _ (List.mem_of_getElem? (i := 14) rfl)) rfl rfl rfl rfl (Nat.le_of_ble_eq_true rfl) dX6_init_105 (fs1 := [.ref (a + 1), .ref (a + 3), .ref (a + 5), .ref (a + 7), .ref (a + 9), .ref (a + 11), .ref (a + 13), .int (sI 0)]) rfl (fun M85 H locs hM85 hV => ?_)
  have hc86 : M85 a = some (sObj 4 [.ref (a + 1), .ref (a + 3), .ref (a + 5), .ref (a + 7), .ref (a + 9), .ref (a + 11), .ref (a + 13), .int (sI 0)]) := (congrFun hM85 a).trans (va_up_self M83 a _)
  refine si_const S dX6_init_108 ?_
  refine lv_istore_n (lv' := [(1, .int (sI 0)), (0, .ref a)]) hx_ hb_ dX6_init_109 rfl hl (by decide) rfl (fun ls hl => ?_)
  have L110 : ∀ (fuel : Nat) (i : Int) (td : Int → Int → Int) (Ml110 : sM) (H : Heap) (locs : List Loc) (ls : Array Slot), ((4 - i).toNat) < fuel → (0 ≤ i ∧ i ≤ 4) → (∀ i2 j2, 0 ≤ i2 → i2 < i → 0 ≤ j2 → j2 < 2 → td i2 j2 = tvD f0 i2 j2) → (stK G Ml110 (a + 5) 2 i 8 td) → (∀ x : Nat, ¬ (a + 5 ≤ x ∧ x < a + 5 + 2) → Ml110 x = M85 x) → sV G b_ Ml110 (a + 15) s_ H locs → lv_has ls 2 [(0, .ref a), (1, .int (sI i))] → W p_ l_ e_ rmX6_init s_ m_ args_ below_ meth_ c_ H locs 14 2821 Q (F0 m_ 110 ls []) := by
    intro fuel
    induction fuel with
    | zero => intro i td Ml110 H locs ls hmu; exact absurd hmu (Nat.not_lt_zero _)
    | succ fuel ih110 =>
      intro i td Ml110 H locs ls hmu110 hv110_0 hd hm110_0 hfr110 hV hl
      refine lv_iload_n hx_ hb_ dX6_init_110 rfl (lv_at hl 1 rfl) ?_
      refine si_const S dX6_init_111 ?_
      refine sb_ge (tgt := 152) S dX6_init_112 (by decide) (by omega) (fun c87 => ?_) (fun c87 => ?_)
      · have ei : i = 4 := by omega
        subst ei
        have hv88 : stK G Ml110 (a + 5) 2 4 8 (tvD f0) := hm110_0.c (fun i2 j2 q1 q2 q3 q4 => hd i2 j2 q1 q2 q3 q4)
        refine si_const S dX6_init_152 ?_
        refine lv_istore_n (lv' := [(1, .int (sI 0)), (0, .ref a)]) hx_ hb_ dX6_init_153 rfl hl (by decide) rfl (fun ls hl => ?_)
        have L154 : ∀ (fuel : Nat) (i : Int) (tp : Int → Int → Int) (Ml154 : sM) (H : Heap) (locs : List Loc) (ls : Array Slot), ((6 - i).toNat) < fuel → (0 ≤ i ∧ i ≤ 6) → (∀ i2 j2, 0 ≤ i2 → i2 < i → 0 ≤ j2 → j2 < 6 → tp i2 j2 = tvP f0 i2 j2) → (stK G Ml154 (a + 7) 6 i 36 tp) → (∀ x : Nat, ¬ (a + 7 ≤ x ∧ x < a + 7 + 2) → Ml154 x = Ml110 x) → sV G b_ Ml154 (a + 15) s_ H locs → lv_has ls 2 [(0, .ref a), (1, .int (sI i))] → W p_ l_ e_ rmX6_init s_ m_ args_ below_ meth_ c_ H locs 14 2821 Q (F0 m_ 154 ls []) := by
          intro fuel
          induction fuel with
          | zero => intro i tp Ml154 H locs ls hmu; exact absurd hmu (Nat.not_lt_zero _)
          | succ fuel ih154 =>
            intro i tp Ml154 H locs ls hmu154 hv154_0 hp hm154_0 hfr154 hV hl
            refine lv_iload_n hx_ hb_ dX6_init_154 rfl (lv_at hl 1 rfl) ?_
            refine si_bipush S dX6_init_155 (by decide) ?_
            refine sb_ge (tgt := 174) S dX6_init_157 (by decide) (by omega) (fun c89 => ?_) (fun c89 => ?_)
            · have ei : i = 6 := by omega
              subst ei
              have hv90 : stK G Ml154 (a + 7) 6 6 36 (tvP f0) := hm154_0.c (fun i2 j2 q1 q2 q3 q4 => hp i2 j2 q1 q2 q3 q4)
              have hc91 : stK G Ml154 (a + 1) 7 0 70 (tvS f0) := hc8.fr (fun x q8 q9 => (((((((((((((((((((((hfr154 x (by omega)).trans (hfr110 x (by omega))).trans ((congrFun hM85 x).trans (va_up_ne M83 _ (by omega)))).trans ((congrFun hM83 x).trans (va_up_ne M75 _ (by omega)))).trans (hf81 x (by omega) (by omega))).trans ((congrFun hM73 x).trans (va_up_ne M71 _ (by omega)))).trans ((congrFun hM71 x).trans (va_up_ne M63 _ (by omega)))).trans (hf69 x (by omega) (by omega))).trans ((congrFun hM61 x).trans (va_up_ne M59 _ (by omega)))).trans ((congrFun hM59 x).trans (va_up_ne M51 _ (by omega)))).trans (hf57 x (by omega) (by omega))).trans ((congrFun hM49 x).trans (va_up_ne M47 _ (by omega)))).trans ((congrFun hM47 x).trans (va_up_ne M39 _ (by omega)))).trans (hf45 x (by omega) (by omega))).trans ((congrFun hM37 x).trans (va_up_ne M35 _ (by omega)))).trans ((congrFun hM35 x).trans (va_up_ne M27 _ (by omega)))).trans (hf33 x (by omega) (by omega))).trans ((congrFun hM25 x).trans (va_up_ne M23 _ (by omega)))).trans ((congrFun hM23 x).trans (va_up_ne M15 _ (by omega)))).trans (hf21 x (by omega) (by omega))).trans ((congrFun hM13 x).trans (va_up_ne M11 _ (by omega)))).trans ((congrFun hM11 x).trans (va_up_ne M3 _ (by omega))))
              have hc92 : stK G Ml154 (a + 3) 2 0 80 (tvC f0) := hc20.fr (fun x q8 q9 => ((((((((((((((((((hfr154 x (by omega)).trans (hfr110 x (by omega))).trans ((congrFun hM85 x).trans (va_up_ne M83 _ (by omega)))).trans ((congrFun hM83 x).trans (va_up_ne M75 _ (by omega)))).trans (hf81 x (by omega) (by omega))).trans ((congrFun hM73 x).trans (va_up_ne M71 _ (by omega)))).trans ((congrFun hM71 x).trans (va_up_ne M63 _ (by omega)))).trans (hf69 x (by omega) (by omega))).trans ((congrFun hM61 x).trans (va_up_ne M59 _ (by omega)))).trans ((congrFun hM59 x).trans (va_up_ne M51 _ (by omega)))).trans (hf57 x (by omega) (by omega))).trans ((congrFun hM49 x).trans (va_up_ne M47 _ (by omega)))).trans ((congrFun hM47 x).trans (va_up_ne M39 _ (by omega)))).trans (hf45 x (by omega) (by omega))).trans ((congrFun hM37 x).trans (va_up_ne M35 _ (by omega)))).trans ((congrFun hM35 x).trans (va_up_ne M27 _ (by omega)))).trans (hf33 x (by omega) (by omega))).trans ((congrFun hM25 x).trans (va_up_ne M23 _ (by omega)))).trans ((congrFun hM23 x).trans (va_up_ne M15 _ (by omega))))
              have hc93 : stK G Ml154 (a + 5) 2 4 8 (tvD f0) := hv88.fr (fun x q8 q9 => hfr154 x (by omega))
              have hc94 : stK G Ml154 (a + 9) 5 0 300 (tvT f0) := hc56.fr (fun x q8 q9 => (((((((((hfr154 x (by omega)).trans (hfr110 x (by omega))).trans ((congrFun hM85 x).trans (va_up_ne M83 _ (by omega)))).trans ((congrFun hM83 x).trans (va_up_ne M75 _ (by omega)))).trans (hf81 x (by omega) (by omega))).trans ((congrFun hM73 x).trans (va_up_ne M71 _ (by omega)))).trans ((congrFun hM71 x).trans (va_up_ne M63 _ (by omega)))).trans (hf69 x (by omega) (by omega))).trans ((congrFun hM61 x).trans (va_up_ne M59 _ (by omega)))).trans ((congrFun hM59 x).trans (va_up_ne M51 _ (by omega))))
              have hc95 : stK G Ml154 (a + 11) 4 0 80 (tvW f0) := hc68.fr (fun x q8 q9 => ((((((hfr154 x (by omega)).trans (hfr110 x (by omega))).trans ((congrFun hM85 x).trans (va_up_ne M83 _ (by omega)))).trans ((congrFun hM83 x).trans (va_up_ne M75 _ (by omega)))).trans (hf81 x (by omega) (by omega))).trans ((congrFun hM73 x).trans (va_up_ne M71 _ (by omega)))).trans ((congrFun hM71 x).trans (va_up_ne M63 _ (by omega))))
              have hc96 : stK G Ml154 (a + 13) 3 0 24 (tvO f0) := hc80.fr (fun x q8 q9 => (((hfr154 x (by omega)).trans (hfr110 x (by omega))).trans ((congrFun hM85 x).trans (va_up_ne M83 _ (by omega)))).trans ((congrFun hM83 x).trans (va_up_ne M75 _ (by omega))))
              have hc97 : Ml154 a = some (sObj 4 [.ref (a + 1), .ref (a + 3), .ref (a + 5), .ref (a + 7), .ref (a + 9), .ref (a + 11), .ref (a + 13), .int (sI 0)]) := ((hfr154 a (by omega)).trans (hfr110 a (by omega))).trans hc86
              exact sr_v E hQ dX6_init_174 ⟨Nat.le_of_ble_eq_true rfl, Nat.le_of_ble_eq_true rfl⟩ hV (⟨by omega, ⟨hc97, hc91, hc92, hc93, hv90, hc94, hc95, hc96⟩, fun x q0 => (((((((((((((((((((((((hfr154 x (by omega)).trans (hfr110 x (by omega))).trans ((congrFun hM85 x).trans (va_up_ne M83 _ (by omega)))).trans ((congrFun hM83 x).trans (va_up_ne M75 _ (by omega)))).trans (hf81 x (by omega) (by omega))).trans ((congrFun hM73 x).trans (va_up_ne M71 _ (by omega)))).trans ((congrFun hM71 x).trans (va_up_ne M63 _ (by omega)))).trans (hf69 x (by omega) (by omega))).trans ((congrFun hM61 x).trans (va_up_ne M59 _ (by omega)))).trans ((congrFun hM59 x).trans (va_up_ne M51 _ (by omega)))).trans (hf57 x (by omega) (by omega))).trans ((congrFun hM49 x).trans (va_up_ne M47 _ (by omega)))).trans ((congrFun hM47 x).trans (va_up_ne M39 _ (by omega)))).trans (hf45 x (by omega) (by omega))).trans ((congrFun hM37 x).trans (va_up_ne M35 _ (by omega)))).trans ((congrFun hM35 x).trans (va_up_ne M27 _ (by omega)))).trans (hf33 x (by omega) (by omega))).trans ((congrFun hM25 x).trans (va_up_ne M23 _ (by omega)))).trans ((congrFun hM23 x).trans (va_up_ne M15 _ (by omega)))).trans (hf21 x (by omega) (by omega))).trans ((congrFun hM13 x).trans (va_up_ne M11 _ (by omega)))).trans ((congrFun hM11 x).trans (va_up_ne M3 _ (by omega)))).trans (hf9 x (by omega) (by omega))).trans ((congrFun hM1 x).trans (va_up_ne M _ (by omega)))⟩)
            · refine lv_aload_n hx_ hb_ dX6_init_160 rfl (lv_at hl 0 rfl) ?_
              have hc98 : Ml154 a = some (sObj 4 [.ref (a + 1), .ref (a + 3), .ref (a + 5), .ref (a + 7), .ref (a + 9), .ref (a + 11), .ref (a + 13), .int (sI 0)]) := ((hfr154 a (by omega)).trans (hfr110 a (by omega))).trans hc86
              refine sc_get (ci := 4) (C := RX6) (T := TX6) (n := 8) S hK hV inX6_ hc98 rfl 3 (by decide) (S.2.2.2.2 _ (List.mem_of_getElem? (i := 10) rfl)) rfl rfl dX6_init_161 ?_
              refine sk_Vi E hV (As := []) (rest := []) (kTa l_ G b_ Ml154 (a + 15) (a + 7) 6 i 36 tp hm154_0 (by omega)) (cwV 0 S.2.2.2.2 gX6_init_X8_add rfl rfl rfl (by decide +kernel) ⟨Nat.le_of_ble_eq_true rfl, Nat.le_of_ble_eq_true rfl⟩) (ci := 6) (hm154_0).1 rfl rfl rfl hl.1 (Nat.le_of_ble_eq_true rfl) dX6_init_164 (c1 := 14) (s1 := 2821) ⟨⟨rfl, rfl⟩, by decide, by decide⟩ (fun z102 M99 N100 H locs hp101 hV => ?_)
              obtain ⟨ez103, hN104, hc105, hf106⟩ := hp101
              rw [hN104] at hV
              rw [ez103]
              refine lv_pop hx_ hb_ dX6_init_167 rfl ?_
              refine si_inc (lv' := [(1, .int (sI (i + 1))), (0, .ref a)]) S dX6_init_168 hl (k := 1) rfl (by decide) rfl (fun ls hl => ?_)
              refine lv_goto (tgt := 154) hx_ hb_ dX6_init_171 (by decide) ?_
              exact ih154 (i + 1) (tvZ tp i) M99 _ _ _ (by omega) (by omega) (fun i2 j2 h1 h2 h3 h4 => by have e := (f0_t i2 j2 h1).2 (by omega); unfold tvZ; by_cases q1 : i2 = i <;> first | (rw [if_neg q1]; exact hp i2 j2 h1 (by omega) h3 h4) | (rw [if_pos q1, e])) hc105 (fun x q0 => (hf106 x (by omega) (by omega)).trans (hfr154 x (by omega))) hV (lv_sub hl [1, 0] rfl)
        have hc107 : stK G Ml110 (a + 7) 6 0 36 (tvP f0) := hc44.fr (fun x q8 q9 => (((((((((((hfr110 x (by omega)).trans ((congrFun hM85 x).trans (va_up_ne M83 _ (by omega)))).trans ((congrFun hM83 x).trans (va_up_ne M75 _ (by omega)))).trans (hf81 x (by omega) (by omega))).trans ((congrFun hM73 x).trans (va_up_ne M71 _ (by omega)))).trans ((congrFun hM71 x).trans (va_up_ne M63 _ (by omega)))).trans (hf69 x (by omega) (by omega))).trans ((congrFun hM61 x).trans (va_up_ne M59 _ (by omega)))).trans ((congrFun hM59 x).trans (va_up_ne M51 _ (by omega)))).trans (hf57 x (by omega) (by omega))).trans ((congrFun hM49 x).trans (va_up_ne M47 _ (by omega)))).trans ((congrFun hM47 x).trans (va_up_ne M39 _ (by omega))))
        exact L154 _ 0 (tvP f0) Ml110 _ _ _ (Nat.lt_succ_self _) (by omega) (fun i2 j2 h1 h2 => by omega) hc107 (fun x q0 => rfl) hV (lv_sub hl [1, 0] rfl)
      · refine lv_aload_n hx_ hb_ dX6_init_115 rfl (lv_at hl 0 rfl) ?_
        have hc108 : Ml110 a = some (sObj 4 [.ref (a + 1), .ref (a + 3), .ref (a + 5), .ref (a + 7), .ref (a + 9), .ref (a + 11), .ref (a + 13), .int (sI 0)]) := (hfr110 a (by omega)).trans hc86
        refine sc_get (ci := 4) (C := RX6) (T := TX6) (n := 8) S hK hV inX6_ hc108 rfl 2 (by decide) (S.2.2.2.2 _ (List.mem_of_getElem? (i := 9) rfl)) rfl rfl dX6_init_116 ?_
        refine sk_Vi E hV (As := []) (rest := []) (kTa l_ G b_ Ml110 (a + 15) (a + 5) 2 i 8 td hm110_0 (by omega)) (cwV 0 S.2.2.2.2 gX6_init_X8_add rfl rfl rfl (by decide +kernel) ⟨Nat.le_of_ble_eq_true rfl, Nat.le_of_ble_eq_true rfl⟩) (ci := 6) (hm110_0).1 rfl rfl rfl hl.1 (Nat.le_of_ble_eq_true rfl) dX6_init_119 (c1 := 14) (s1 := 2821) ⟨⟨rfl, rfl⟩, by decide, by decide⟩ (fun z112 M109 N110 H locs hp111 hV => ?_)
        obtain ⟨ez113, hN114, hc115, hf116⟩ := hp111
        rw [hN114] at hV
        rw [ez113]
        refine lv_pop hx_ hb_ dX6_init_122 rfl ?_
        refine lv_aload_n hx_ hb_ dX6_init_123 rfl (lv_at hl 0 rfl) ?_
        have hc117 : M109 a = some (sObj 4 [.ref (a + 1), .ref (a + 3), .ref (a + 5), .ref (a + 7), .ref (a + 9), .ref (a + 11), .ref (a + 13), .int (sI 0)]) := (hf116 a (by omega) (by omega)).trans hc108
        refine sc_get (ci := 4) (C := RX6) (T := TX6) (n := 8) S hK hV inX6_ hc117 rfl 2 (by decide) (S.2.2.2.2 _ (List.mem_of_getElem? (i := 9) rfl)) rfl rfl dX6_init_124 ?_
        refine lv_iload_n hx_ hb_ dX6_init_127 rfl (lv_at hl 1 rfl) ?_
        refine si_const S dX6_init_128 ?_
        refine si_bipush S dX6_init_129 (by decide) ?_
        refine sk_Vv E hV (As := [.int (sI i), .int (sI 0), .int (sI 20)]) (rest := []) (kTw l_ G b_ M109 (a + 15) (a + 5) 2 (i + 1) 8 (tvZ td i) i 0 20 hc115 (by omega) (by omega)) (cwV 3 S.2.2.2.2 gX6_init_X8_set rfl rfl rfl (by decide +kernel) ⟨Nat.le_of_ble_eq_true rfl, Nat.le_of_ble_eq_true rfl⟩) (ci := 6) (hc115).1 rfl rfl rfl hl.1 (Nat.le_of_ble_eq_true rfl) dX6_init_131 (c1 := 14) (s1 := 2821) ⟨⟨rfl, rfl⟩, by decide, by decide⟩ (fun M118 N119 H locs hp120 hV => ?_)
        obtain ⟨hN122, hc123, hf124⟩ := hp120
        rw [hN122] at hV
        refine lv_aload_n hx_ hb_ dX6_init_134 rfl (lv_at hl 0 rfl) ?_
        have hc125 : M118 a = some (sObj 4 [.ref (a + 1), .ref (a + 3), .ref (a + 5), .ref (a + 7), .ref (a + 9), .ref (a + 11), .ref (a + 13), .int (sI 0)]) := (hf124 a (by omega)).trans hc117
        refine sc_get (ci := 4) (C := RX6) (T := TX6) (n := 8) S hK hV inX6_ hc125 rfl 2 (by decide) (S.2.2.2.2 _ (List.mem_of_getElem? (i := 9) rfl)) rfl rfl dX6_init_135 ?_
        refine lv_iload_n hx_ hb_ dX6_init_138 rfl (lv_at hl 1 rfl) ?_
        refine si_const S dX6_init_139 ?_
        refine si_sipush S dX6_init_140 (by decide) ?_
        refine sk_Vv E hV (As := [.int (sI i), .int (sI 1), .int (sI 200)]) (rest := []) (kTw l_ G b_ M118 (a + 15) (a + 5) 2 (i + 1) 8 (tvU (tvZ td i) i 0 20) i 1 200 hc123 (by omega) (by omega)) (cwV 3 S.2.2.2.2 gX6_init_X8_set rfl rfl rfl (by decide +kernel) ⟨Nat.le_of_ble_eq_true rfl, Nat.le_of_ble_eq_true rfl⟩) (ci := 6) (hc123).1 rfl rfl rfl hl.1 (Nat.le_of_ble_eq_true rfl) dX6_init_143 (c1 := 14) (s1 := 2821) ⟨⟨rfl, rfl⟩, by decide, by decide⟩ (fun M126 N127 H locs hp128 hV => ?_)
        obtain ⟨hN130, hc131, hf132⟩ := hp128
        rw [hN130] at hV
        refine si_inc (lv' := [(1, .int (sI (i + 1))), (0, .ref a)]) S dX6_init_146 hl (k := 1) rfl (by decide) rfl (fun ls hl => ?_)
        refine lv_goto (tgt := 110) hx_ hb_ dX6_init_149 (by decide) ?_
        exact ih110 (i + 1) (tvU (tvU (tvZ td i) i 0 20) i 1 200) M126 _ _ _ (by omega) (by omega) (fun i2 j2 h1 h2 h3 h4 => by have e := (f0_t i2 j2 h1).1 (by omega); unfold tvU tvZ; by_cases q1 : i2 = i <;> by_cases q2 : j2 = 0 <;> first | (rw [if_neg (by omega), if_neg (by omega), if_neg q1]; exact hd i2 j2 h1 (by omega) h3 h4) | (rw [if_neg (by omega), if_pos ⟨q1, q2⟩, e, if_pos q2]) | (rw [if_pos (by omega), e, if_neg q2])) hc131 (fun x q0 => (((hf132 x (by omega)).trans (hf124 x (by omega))).trans (hf116 x (by omega) (by omega))).trans (hfr110 x (by omega))) hV (lv_sub hl [1, 0] rfl)
  have hc133 : stK G M85 (a + 5) 2 0 8 (tvD f0) := hc32.fr (fun x q8 q9 => ((((((((((((((congrFun hM85 x).trans (va_up_ne M83 _ (by omega))).trans ((congrFun hM83 x).trans (va_up_ne M75 _ (by omega)))).trans (hf81 x (by omega) (by omega))).trans ((congrFun hM73 x).trans (va_up_ne M71 _ (by omega)))).trans ((congrFun hM71 x).trans (va_up_ne M63 _ (by omega)))).trans (hf69 x (by omega) (by omega))).trans ((congrFun hM61 x).trans (va_up_ne M59 _ (by omega)))).trans ((congrFun hM59 x).trans (va_up_ne M51 _ (by omega)))).trans (hf57 x (by omega) (by omega))).trans ((congrFun hM49 x).trans (va_up_ne M47 _ (by omega)))).trans ((congrFun hM47 x).trans (va_up_ne M39 _ (by omega)))).trans (hf45 x (by omega) (by omega))).trans ((congrFun hM37 x).trans (va_up_ne M35 _ (by omega)))).trans ((congrFun hM35 x).trans (va_up_ne M27 _ (by omega))))
  exact L110 _ 0 (tvD f0) M85 _ _ _ (Nat.lt_succ_self _) (by omega) (fun i2 j2 h1 h2 => by omega) hc133 (fun x q0 => rfl) hV (lv_sub hl [1, 0] rfl)
