/-! The class: its start, the tape, what it shows. -/

abbrev rmX10_init : Room := { frames := 4, cells := 60, slots := 20000, locals := 105 }
set_option maxHeartbeats 4000000 in
set_option maxRecDepth 100000 in
theorem kX10_init (l_ : Launch) (G : sG) (b_ : Nat) (M : sM) (N : Nat) (c : Nat) (hc0 : M c = some (sObj 8 [.null, .null, .null, .int (sI 0), .int (sI 0), .null, .null, .null, .null, .null, .null])) (hN : N = c + 1) : cQ l_ yX10_init wsX10_init rmX10_init G b_ M N [.ref c] (fun M1 N1 => N1 = c + 60 ∧ M1 c = some (xO c 0 0) ∧ stC G M1 (c + 1) f0 ∧ stC G M1 (c + 16) f0 ∧ M1 (c + 31) = some (sArS G 15 (fun _ => none)) ∧ M1 (c + 32) = some (sObj 7 [.ref (c + 33), .int (sI 0), .int (sI (-1))]) ∧ M1 (c + 33) = some (sArr G 300 (fun _ => 0)) ∧ M1 (c + 34) = some (sObj 0 [.ref (c + 35), .ref (c + 37), .int (sI 0), .int (sI 0), .int (sI 0), .int (sI 0), .int (sI 0)]) ∧ stK G M1 (c + 35) 5 0 165 (fun _ _ => 0) ∧ M1 (c + 37) = some (sArC G 180 (fun _ => 0)) ∧ M1 (c + 38) = some (sObj 3 [.ref (c + 39), .ref (c + 40), .ref (c + 41), .ref (c + 42), .ref (c + 43), .ref (c + 44), .ref (c + 45), .ref (c + 46), .ref (c + 47), .int (sI 0), .int (sI (-1))]) ∧ M1 (c + 39) = some (sArr G 10 (fun _ => 0)) ∧ M1 (c + 40) = some (sArr G 10 (fun _ => 0)) ∧ M1 (c + 41) = some (sArr G 10 (fun _ => 0)) ∧ M1 (c + 42) = some (sArr G 1024 (fun _ => 0)) ∧ M1 (c + 43) = some (sArr G 1024 (fun _ => 0)) ∧ M1 (c + 44) = some (sArr G 100 (fun _ => 0)) ∧ M1 (c + 45) = some (sArr G 100 (fun _ => 0)) ∧ M1 (c + 46) = some (sArr G 11 (fun _ => 0)) ∧ M1 (c + 47) = some (sArr G 10 (fun _ => 0)) ∧ M1 (c + 48) = some (sObj 2 [.ref (c + 49), .ref (c + 50), .ref (c + 51), .ref (c + 52), .ref (c + 53), .int (sI 0), .int (sI 268435456)]) ∧ M1 (c + 49) = some (sArr G 1024 (fun _ => 0)) ∧ M1 (c + 50) = some (sArr G 1024 (fun _ => 0)) ∧ M1 (c + 51) = some (sArr G 1024 (fun _ => 0)) ∧ M1 (c + 52) = some (sArr G 1024 (fun _ => 0)) ∧ M1 (c + 53) = some (sArr G 10 (fun _ => 0)) ∧ M1 (c + 54) = some (sObj 5 [.ref (c + 55), .ref (c + 56), .int (sI 0)]) ∧ M1 (c + 55) = some (sArr G 61 (fun _ => 0)) ∧ M1 (c + 56) = some (sArr G 61 (fun _ => 0)) ∧ M1 (c + 57) = some (sObj 1 [.ref (c + 58), .ref (c + 59), .int (sI 0), .int (sI 0)]) ∧ M1 (c + 58) = some (sArr G 256 (fun _ => 0)) ∧ M1 (c + 59) = some (sArr G 8 (fun _ => 0)) ∧ (∀ x : Nat, ¬ (c ≤ x ∧ x < c + 60) → M1 x = M x)) := by
  refine sE.ofQ (cc := cX10_init) (nL := 1) (ret := none) (by decide) rfl (Nat.le_of_ble_eq_true rfl) ?_
  intro p_ e_ s_ m_ args_ below_ meth_ c_ ls Q hQ E hAO_ hl
  have E : sE p_ l_ e_ rmX10_init s_ m_ args_ below_ meth_ c_ cX10_init 1 wsX10_init RX10 "<init>" none G b_ M N := E
  have S := E.1
  have hx_ := S.1
  have hb_ := S.2.1
  have hK := E.2.2.2.2.1
  have hV := E.2.2.2.2.2.2
  have hnm := E.2.2.2.1
  have hl : lv_has ls 1 [(0, .ref c)] := hl
  have inX6_ : ∀ w ∈ wsX60, w ∈ wsX10_init := fun _ h => List.mem_cons_of_mem _ (List.mem_append_left _ (List.mem_append_left _ (List.mem_append_left _ (List.mem_append_left _ (List.mem_append_left _ (List.mem_append_left _ (List.mem_append_left _ (List.mem_append_left _ (List.mem_append_right _ h)))))))))
  have inX10_ : ∀ w ∈ wsX100, w ∈ wsX10_init := fun _ h => List.mem_cons_of_mem _ (List.mem_append_left _ (List.mem_append_left _ (List.mem_append_left _ (List.mem_append_left _ (List.mem_append_left _ (List.mem_append_left _ (List.mem_append_left _ (List.mem_append_right _ h))))))))
  have inX9_ : ∀ w ∈ wsX90, w ∈ wsX10_init := fun _ h => List.mem_cons_of_mem _ (List.mem_append_left _ (List.mem_append_left _ (List.mem_append_left _ (List.mem_append_left _ (List.mem_append_left _ (List.mem_append_left _ (List.mem_append_right _ h)))))))
  have inX1_ : ∀ w ∈ wsX10, w ∈ wsX10_init := fun _ h => List.mem_cons_of_mem _ (List.mem_append_left _ (List.mem_append_left _ (List.mem_append_left _ (List.mem_append_left _ (List.mem_append_left _ (List.mem_append_right _ h))))))
  have inX5_ : ∀ w ∈ wsX50, w ∈ wsX10_init := fun _ h => List.mem_cons_of_mem _ (List.mem_append_left _ (List.mem_append_left _ (List.mem_append_left _ (List.mem_append_left _ (List.mem_append_right _ h)))))
  have inX3_ : ∀ w ∈ wsX30, w ∈ wsX10_init := fun _ h => List.mem_cons_of_mem _ (List.mem_append_left _ (List.mem_append_left _ (List.mem_append_left _ (List.mem_append_right _ h))))
  have inX7_ : ∀ w ∈ wsX70, w ∈ wsX10_init := fun _ h => List.mem_cons_of_mem _ (List.mem_append_left _ (List.mem_append_left _ (List.mem_append_right _ h)))
  have inX2_ : ∀ w ∈ wsX20, w ∈ wsX10_init := fun _ h => List.mem_cons_of_mem _ (List.mem_append_left _ (List.mem_append_right _ h))
  have inX8_ : ∀ w ∈ wsX80, w ∈ wsX10_init := fun _ h => List.mem_cons_of_mem _ (List.mem_append_right _ h)
  have hbN : b_ ≤ N := by have h1 := hV.1.1; have h2 := hV.2.2; omega
  subst hN
  refine lv_aload_n hx_ hb_ dX10_init_0 rfl (lv_at hl 0 rfl) ?_
  refine W.objInit hx_ hb_ S.2.2.2.1 (S.2.2.2.2 _ (List.mem_of_getElem? (i := 1) rfl)) (S.2.2.2.2 _ (List.mem_of_getElem? (i := 2) rfl)) (S.2.2.2.2 _ (List.mem_of_getElem? (i := 3) rfl)) rfl (by rw [S.2.2.1]; exact hl.1) rfl dX10_init_1 (Nat.le_of_ble_eq_true rfl) (Nat.le_of_ble_eq_true rfl) ?_
  refine W.eq (g2 := F0 m_ 4 ls []) rfl ?_
  refine lv_aload_n hx_ hb_ dX10_init_4 rfl (lv_at hl 0 rfl) ?_
  refine sc_newo (ci := 4) (C := RX6) (T := TX6) (n := 8) (fs := [.null, .null, .null, .null, .null, .null, .null, .int (sI 0)]) S hK hV inX6_ tyX6_ok (S.2.2.2.2 _ (List.mem_of_getElem? (i := 4) rfl)) (S.2.2.2.2 _ (List.mem_of_getElem? (i := 5) rfl)) (S.2.2.2.2 _ (List.mem_of_getElem? (i := 6) rfl)) rfl (fun j hj => by rcases (show j = 0 ∨ j = 1 ∨ j = 2 ∨ j = 3 ∨ j = 4 ∨ j = 5 ∨ j = 6 ∨ j = 7 by omega) with rfl | rfl | rfl | rfl | rfl | rfl | rfl | rfl <;> rfl) ⟨by decide, by decide⟩ dX10_init_5 (fun M1 H locs hM1 hV => ?_)
  have hc2 : M1 (c + 1) = some (sObj 4 [.null, .null, .null, .null, .null, .null, .null, .int (sI 0)]) := (congrFun hM1 (c + 1)).trans (va_up_self M (c + 1) _)
  refine lv_dup hx_ hb_ dX10_init_8 rfl ?_
  refine sk_I E hV (As := []) (rest := [.ref (c + 1), .ref c]) (kX6_init l_ G b_ M1 (c + 2) (c + 1) 0 hc2 (rfl)) (cwI 0 S.2.2.2.2 gX10_init_X6_init rfl rfl rfl (S.2.2.2.2 _ (List.mem_of_getElem? (i := 6) rfl)) (S.2.2.2.2 _ (List.mem_of_getElem? (i := 36) rfl)) (S.2.2.2.2 _ (List.mem_of_getElem? (i := 37) rfl)) rfl (by decide +kernel) ⟨Nat.le_of_ble_eq_true rfl, Nat.le_of_ble_eq_true rfl⟩) rfl rfl hl.1 (Nat.le_of_ble_eq_true rfl) dX10_init_9 (c1 := 15) (s1 := 2829) ⟨⟨rfl, rfl⟩, by decide, by decide⟩ (fun M3 N4 H locs hp5 hV => ?_)
  obtain ⟨hN7, hc8, hf9⟩ := hp5
  subst hN7
  have hc10 : M3 c = some (sObj 8 [.null, .null, .null, .int (sI 0), .int (sI 0), .null, .null, .null, .null, .null, .null]) := ((hf9 c (by omega)).trans ((congrFun hM1 c).trans (va_up_ne M _ (by omega)))).trans hc0
  refine sc_putF (ci := 8) (C := RX10) (T := TX10) (n := 11) S hK hV inX10_ tyX10_ok nmX10 hc10 rfl 0 (by decide) (S.2.2.2.2 _ (List.mem_of_getElem? (i := 7) rfl)) rfl rfl hnm rfl rfl rfl (Nat.le_of_ble_eq_true rfl) dX10_init_12 (fs1 := [.ref (c + 1), .null, .null, .int (sI 0), .int (sI 0), .null, .null, .null, .null, .null, .null]) rfl (fun M11 H locs hM11 hV => ?_)
  have hc12 : M11 c = some (sObj 8 [.ref (c + 1), .null, .null, .int (sI 0), .int (sI 0), .null, .null, .null, .null, .null, .null]) := (congrFun hM11 c).trans (va_up_self M3 c _)
  refine lv_aload_n hx_ hb_ dX10_init_15 rfl (lv_at hl 0 rfl) ?_
  refine sc_newo (ci := 4) (C := RX6) (T := TX6) (n := 8) (fs := [.null, .null, .null, .null, .null, .null, .null, .int (sI 0)]) S hK hV inX6_ tyX6_ok (S.2.2.2.2 _ (List.mem_of_getElem? (i := 4) rfl)) (S.2.2.2.2 _ (List.mem_of_getElem? (i := 5) rfl)) (S.2.2.2.2 _ (List.mem_of_getElem? (i := 6) rfl)) rfl (fun j hj => by rcases (show j = 0 ∨ j = 1 ∨ j = 2 ∨ j = 3 ∨ j = 4 ∨ j = 5 ∨ j = 6 ∨ j = 7 by omega) with rfl | rfl | rfl | rfl | rfl | rfl | rfl | rfl <;> rfl) ⟨by decide, by decide⟩ dX10_init_16 (fun M13 H locs hM13 hV => ?_)
  have hc14 : M13 (c + 16) = some (sObj 4 [.null, .null, .null, .null, .null, .null, .null, .int (sI 0)]) := (congrFun hM13 (c + 16)).trans (va_up_self M11 (c + 16) _)
  refine lv_dup hx_ hb_ dX10_init_19 rfl ?_
  refine sk_I E hV (As := []) (rest := [.ref (c + 16), .ref c]) (kX6_init l_ G b_ M13 (c + 17) (c + 16) 0 hc14 (rfl)) (cwI 0 S.2.2.2.2 gX10_init_X6_init rfl rfl rfl (S.2.2.2.2 _ (List.mem_of_getElem? (i := 6) rfl)) (S.2.2.2.2 _ (List.mem_of_getElem? (i := 36) rfl)) (S.2.2.2.2 _ (List.mem_of_getElem? (i := 37) rfl)) rfl (by decide +kernel) ⟨Nat.le_of_ble_eq_true rfl, Nat.le_of_ble_eq_true rfl⟩) rfl rfl hl.1 (Nat.le_of_ble_eq_true rfl) dX10_init_20 (c1 := 30) (s1 := 5658) ⟨⟨rfl, rfl⟩, by decide, by decide⟩ (fun M15 N16 H locs hp17 hV => ?_)
  obtain ⟨hN19, hc20, hf21⟩ := hp17
  subst hN19
  have hc22 : M15 c = some (sObj 8 [.ref (c + 1), .null, .null, .int (sI 0), .int (sI 0), .null, .null, .null, .null, .null, .null]) := ((hf21 c (by omega)).trans ((congrFun hM13 c).trans (va_up_ne M11 _ (by omega)))).trans hc12
  refine sc_putF (ci := 8) (C := RX10) (T := TX10) (n := 11) S hK hV inX10_ tyX10_ok nmX10 hc22 rfl 1 (by decide) (S.2.2.2.2 _ (List.mem_of_getElem? (i := 8) rfl)) rfl rfl hnm rfl rfl rfl (Nat.le_of_ble_eq_true rfl) dX10_init_23 (fs1 := [.ref (c + 1), .ref (c + 16), .null, .int (sI 0), .int (sI 0), .null, .null, .null, .null, .null, .null]) rfl (fun M23 H locs hM23 hV => ?_)
  have hc24 : M23 c = some (sObj 8 [.ref (c + 1), .ref (c + 16), .null, .int (sI 0), .int (sI 0), .null, .null, .null, .null, .null, .null]) := (congrFun hM23 c).trans (va_up_self M15 c _)
  refine lv_aload_n hx_ hb_ dX10_init_26 rfl (lv_at hl 0 rfl) ?_
  refine si_bipush S dX10_init_27 (by decide) ?_
  refine sc_newq S hK hV hAO_ (S.2.2.2.2 _ (List.mem_of_getElem? (i := 4) rfl)) (N0 := 15) ⟨rfl, Nat.le_of_ble_eq_true rfl⟩ ⟨Nat.le_of_ble_eq_true rfl, Nat.le_of_ble_eq_true rfl⟩ dX10_init_29 (fun M25 H locs hM25 hV => ?_)
  have hc26 : M25 (c + 31) = some (sArS G 15 (fun _ => none)) := (congrFun hM25 (c + 31)).trans (va_up_self M23 (c + 31) _)
  have hc27 : M25 c = some (sObj 8 [.ref (c + 1), .ref (c + 16), .null, .int (sI 0), .int (sI 0), .null, .null, .null, .null, .null, .null]) := ((congrFun hM25 c).trans (va_up_ne M23 _ (by omega))).trans hc24
  refine sc_putF (ci := 8) (C := RX10) (T := TX10) (n := 11) S hK hV inX10_ tyX10_ok nmX10 hc27 rfl 2 (by decide) (S.2.2.2.2 _ (List.mem_of_getElem? (i := 9) rfl)) rfl rfl hnm rfl rfl rfl (Nat.le_of_ble_eq_true rfl) dX10_init_32 (fs1 := [.ref (c + 1), .ref (c + 16), .ref (c + 31), .int (sI 0), .int (sI 0), .null, .null, .null, .null, .null, .null]) rfl (fun M28 H locs hM28 hV => ?_)
  have hc29 : M28 c = some (sObj 8 [.ref (c + 1), .ref (c + 16), .ref (c + 31), .int (sI 0), .int (sI 0), .null, .null, .null, .null, .null, .null]) := (congrFun hM28 c).trans (va_up_self M25 c _)
  refine lv_aload_n hx_ hb_ dX10_init_35 rfl (lv_at hl 0 rfl) ?_
  refine si_const S dX10_init_36 ?_
  refine sc_put (ci := 8) (C := RX10) (T := TX10) (n := 11) S hK hV inX10_ tyX10_ok nmX10 hc29 rfl 3 (by decide) (S.2.2.2.2 _ (List.mem_of_getElem? (i := 10) rfl)) rfl rfl rfl rfl (Nat.le_of_ble_eq_true rfl) dX10_init_37 (fs1 := [.ref (c + 1), .ref (c + 16), .ref (c + 31), .int (sI 0), .int (sI 0), .null, .null, .null, .null, .null, .null]) rfl (fun M30 H locs hM30 hV => ?_)
  have hc31 : M30 c = some (sObj 8 [.ref (c + 1), .ref (c + 16), .ref (c + 31), .int (sI 0), .int (sI 0), .null, .null, .null, .null, .null, .null]) := (congrFun hM30 c).trans (va_up_self M28 c _)
  refine lv_aload_n hx_ hb_ dX10_init_40 rfl (lv_at hl 0 rfl) ?_
  refine si_const S dX10_init_41 ?_
  refine sc_put (ci := 8) (C := RX10) (T := TX10) (n := 11) S hK hV inX10_ tyX10_ok nmX10 hc31 rfl 4 (by decide) (S.2.2.2.2 _ (List.mem_of_getElem? (i := 11) rfl)) rfl rfl rfl rfl (Nat.le_of_ble_eq_true rfl) dX10_init_42 (fs1 := [.ref (c + 1), .ref (c + 16), .ref (c + 31), .int (sI 0), .int (sI 0), .null, .null, .null, .null, .null, .null]) rfl (fun M32 H locs hM32 hV => ?_)
  have hc33 : M32 c = some (sObj 8 [.ref (c + 1), .ref (c + 16), .ref (c + 31), .int (sI 0), .int (sI 0), .null, .null, .null, .null, .null, .null]) := (congrFun hM32 c).trans (va_up_self M30 c _)
  refine lv_aload_n hx_ hb_ dX10_init_45 rfl (lv_at hl 0 rfl) ?_
  refine sc_newo (ci := 7) (C := RX9) (T := TX9) (n := 3) (fs := [.null, .int (sI 0), .int (sI 0)]) S hK hV inX9_ tyX9_ok (S.2.2.2.2 _ (List.mem_of_getElem? (i := 12) rfl)) (S.2.2.2.2 _ (List.mem_of_getElem? (i := 13) rfl)) (S.2.2.2.2 _ (List.mem_of_getElem? (i := 14) rfl)) rfl (fun j hj => by rcases (show j = 0 ∨ j = 1 ∨ j = 2 by omega) with rfl | rfl | rfl <;> rfl) ⟨by decide, by decide⟩ dX10_init_46 (fun M34 H locs hM34 hV => ?_)
  have hc35 : M34 (c + 32) = some (sObj 7 [.null, .int (sI 0), .int (sI 0)]) := (congrFun hM34 (c + 32)).trans (va_up_self M32 (c + 32) _)
  refine lv_dup hx_ hb_ dX10_init_49 rfl ?_
  refine sk_IN E hV (As := []) (rest := [.ref (c + 32), .ref c]) (kX9_init l_ G b_ M34 (c + 33) (c + 32) hc35 (rfl)) ⟨va_cnB 0 S.2.2.2.2 gX10_init_X9_init_n32 rfl rfl rfl (E.2.2.2.2.2.1.1.2.2 _ (List.mem_of_getElem? (i := 0) rfl)) (S.2.2.2.2 _ (List.mem_of_getElem? (i := 14) rfl)) (by decide +kernel) ⟨Nat.le_of_ble_eq_true rfl, Nat.le_of_ble_eq_true rfl⟩, rfl, (S.2.2.2.2 _ (List.mem_of_getElem? (i := 76) rfl))⟩ rfl rfl hl.1 (Nat.le_of_ble_eq_true rfl) dX10_init_50 (c1 := 33) (s1 := 5976) ⟨⟨rfl, rfl⟩, by decide, by decide⟩ (fun M36 N37 H locs hp38 hV => ?_)
  obtain ⟨hN40, hc41, hc42, hf43⟩ := hp38
  subst hN40
  have hc44 : M36 c = some (sObj 8 [.ref (c + 1), .ref (c + 16), .ref (c + 31), .int (sI 0), .int (sI 0), .null, .null, .null, .null, .null, .null]) := ((hf43 c (by omega) (by omega)).trans ((congrFun hM34 c).trans (va_up_ne M32 _ (by omega)))).trans hc33
  refine sc_putF (ci := 8) (C := RX10) (T := TX10) (n := 11) S hK hV inX10_ tyX10_ok nmX10 hc44 rfl 5 (by decide) (S.2.2.2.2 _ (List.mem_of_getElem? (i := 15) rfl)) rfl rfl hnm rfl rfl rfl (Nat.le_of_ble_eq_true rfl) dX10_init_53 (fs1 := [.ref (c + 1), .ref (c + 16), .ref (c + 31), .int (sI 0), .int (sI 0), .ref (c + 32), .null, .null, .null, .null, .null]) rfl (fun M45 H locs hM45 hV => ?_)
  have hc46 : M45 c = some (sObj 8 [.ref (c + 1), .ref (c + 16), .ref (c + 31), .int (sI 0), .int (sI 0), .ref (c + 32), .null, .null, .null, .null, .null]) := (congrFun hM45 c).trans (va_up_self M36 c _)
  refine lv_aload_n hx_ hb_ dX10_init_56 rfl (lv_at hl 0 rfl) ?_
  refine sc_newo (ci := 0) (C := RX1) (T := TX1) (n := 7) (fs := [.null, .null, .int (sI 0), .int (sI 0), .int (sI 0), .int (sI 0), .int (sI 0)]) S hK hV inX1_ tyX1_ok (S.2.2.2.2 _ (List.mem_of_getElem? (i := 16) rfl)) (S.2.2.2.2 _ (List.mem_of_getElem? (i := 17) rfl)) (S.2.2.2.2 _ (List.mem_of_getElem? (i := 18) rfl)) rfl (fun j hj => by rcases (show j = 0 ∨ j = 1 ∨ j = 2 ∨ j = 3 ∨ j = 4 ∨ j = 5 ∨ j = 6 by omega) with rfl | rfl | rfl | rfl | rfl | rfl | rfl <;> rfl) ⟨by decide, by decide⟩ dX10_init_57 (fun M47 H locs hM47 hV => ?_)
  have hc48 : M47 (c + 34) = some (sObj 0 [.null, .null, .int (sI 0), .int (sI 0), .int (sI 0), .int (sI 0), .int (sI 0)]) := (congrFun hM47 (c + 34)).trans (va_up_self M45 (c + 34) _)
  refine lv_dup hx_ hb_ dX10_init_60 rfl ?_
  refine sk_IN E hV (As := []) (rest := [.ref (c + 34), .ref c]) (kX1_init l_ G b_ M47 (c + 35) (c + 34) hc48 (rfl)) ⟨va_cnB 0 S.2.2.2.2 gX10_init_X1_init_n39 rfl rfl rfl (E.2.2.2.2.2.1.1.2.2 _ (List.mem_of_getElem? (i := 1) rfl)) (S.2.2.2.2 _ (List.mem_of_getElem? (i := 18) rfl)) (by decide +kernel) ⟨Nat.le_of_ble_eq_true rfl, Nat.le_of_ble_eq_true rfl⟩, rfl, (S.2.2.2.2 _ (List.mem_of_getElem? (i := 82) rfl))⟩ rfl rfl hl.1 (Nat.le_of_ble_eq_true rfl) dX10_init_61 (c1 := 37) (s1 := 6566) ⟨⟨rfl, rfl⟩, by decide, by decide⟩ (fun M49 N50 H locs hp51 hV => ?_)
  obtain ⟨hN53, hc54, hc55, hc56, hf57⟩ := hp51
  subst hN53
  have hc58 : M49 c = some (sObj 8 [.ref (c + 1), .ref (c + 16), .ref (c + 31), .int (sI 0), .int (sI 0), .ref (c + 32), .null, .null, .null, .null, .null]) := ((hf57 c (by omega) (by omega) (by omega) (by omega)).trans ((congrFun hM47 c).trans (va_up_ne M45 _ (by omega)))).trans hc46
  refine sc_putF (ci := 8) (C := RX10) (T := TX10) (n := 11) S hK hV inX10_ tyX10_ok nmX10 hc58 rfl 6 (by decide) (S.2.2.2.2 _ (List.mem_of_getElem? (i := 19) rfl)) rfl rfl hnm rfl rfl rfl (Nat.le_of_ble_eq_true rfl) dX10_init_64 (fs1 := [.ref (c + 1), .ref (c + 16), .ref (c + 31), .int (sI 0), .int (sI 0), .ref (c + 32), .ref (c + 34), .null, .null, .null, .null]) rfl (fun M59 H locs hM59 hV => ?_)
  have hc60 : M59 c = some (sObj 8 [.ref (c + 1), .ref (c + 16), .ref (c + 31), .int (sI 0), .int (sI 0), .ref (c + 32), .ref (c + 34), .null, .null, .null, .null]) := (congrFun hM59 c).trans (va_up_self M49 c _)
  refine lv_aload_n hx_ hb_ dX10_init_67 rfl (lv_at hl 0 rfl) ?_
  refine sc_newo (ci := 3) (C := RX5) (T := TX5) (n := 11) (fs := [.null, .null, .null, .null, .null, .null, .null, .null, .null, .int (sI 0), .int (sI 0)]) S hK hV inX5_ tyX5_ok (S.2.2.2.2 _ (List.mem_of_getElem? (i := 20) rfl)) (S.2.2.2.2 _ (List.mem_of_getElem? (i := 21) rfl)) (S.2.2.2.2 _ (List.mem_of_getElem? (i := 22) rfl)) rfl (fun j hj => by rcases (show j = 0 ∨ j = 1 ∨ j = 2 ∨ j = 3 ∨ j = 4 ∨ j = 5 ∨ j = 6 ∨ j = 7 ∨ j = 8 ∨ j = 9 ∨ j = 10 by omega) with rfl | rfl | rfl | rfl | rfl | rfl | rfl | rfl | rfl | rfl | rfl <;> rfl) ⟨by decide, by decide⟩ dX10_init_68 (fun M61 H locs hM61 hV => ?_)
  have hc62 : M61 (c + 38) = some (sObj 3 [.null, .null, .null, .null, .null, .null, .null, .null, .null, .int (sI 0), .int (sI 0)]) := (congrFun hM61 (c + 38)).trans (va_up_self M59 (c + 38) _)
  refine lv_dup hx_ hb_ dX10_init_71 rfl ?_
  refine sk_IN E hV (As := []) (rest := [.ref (c + 38), .ref c]) (kX5_init l_ G b_ M61 (c + 39) (c + 38) hc62 (rfl)) ⟨va_cnB 0 S.2.2.2.2 gX10_init_X5_init_n46 rfl rfl rfl (E.2.2.2.2.2.1.1.2.2 _ (List.mem_of_getElem? (i := 2) rfl)) (S.2.2.2.2 _ (List.mem_of_getElem? (i := 22) rfl)) (by decide +kernel) ⟨Nat.le_of_ble_eq_true rfl, Nat.le_of_ble_eq_true rfl⟩, rfl, (S.2.2.2.2 _ (List.mem_of_getElem? (i := 95) rfl))⟩ rfl rfl hl.1 (Nat.le_of_ble_eq_true rfl) dX10_init_72 (c1 := 47) (s1 := 8876) ⟨⟨rfl, rfl⟩, by decide, by decide⟩ (fun M63 N64 H locs hp65 hV => ?_)
  obtain ⟨hN67, hc68, hc69, hc70, hc71, hc72, hc73, hc74, hc75, hc76, hc77, hf78⟩ := hp65
  subst hN67
  have hc79 : M63 c = some (sObj 8 [.ref (c + 1), .ref (c + 16), .ref (c + 31), .int (sI 0), .int (sI 0), .ref (c + 32), .ref (c + 34), .null, .null, .null, .null]) := ((hf78 c (by omega) (by omega) (by omega) (by omega) (by omega) (by omega) (by omega) (by omega) (by omega) (by omega)).trans ((congrFun hM61 c).trans (va_up_ne M59 _ (by omega)))).trans hc60
  refine sc_putF (ci := 8) (C := RX10) (T := TX10) (n := 11) S hK hV inX10_ tyX10_ok nmX10 hc79 rfl 7 (by decide) (S.2.2.2.2 _ (List.mem_of_getElem? (i := 23) rfl)) rfl rfl hnm rfl rfl rfl (Nat.le_of_ble_eq_true rfl) dX10_init_75 (fs1 := [.ref (c + 1), .ref (c + 16), .ref (c + 31), .int (sI 0), .int (sI 0), .ref (c + 32), .ref (c + 34), .ref (c + 38), .null, .null, .null]) rfl (fun M80 H locs hM80 hV => ?_)
  have hc81 : M80 c = some (sObj 8 [.ref (c + 1), .ref (c + 16), .ref (c + 31), .int (sI 0), .int (sI 0), .ref (c + 32), .ref (c + 34), .ref (c + 38), .null, .null, .null]) := (congrFun hM80 c).trans (va_up_self M63 c _)
  refine lv_aload_n hx_ hb_ dX10_init_78 rfl (lv_at hl 0 rfl) ?_
  refine sc_newo (ci := 2) (C := RX3) (T := TX3) (n := 7) (fs := [.null, .null, .null, .null, .null, .int (sI 0), .int (sI 0)]) S hK hV inX3_ tyX3_ok (S.2.2.2.2 _ (List.mem_of_getElem? (i := 24) rfl)) (S.2.2.2.2 _ (List.mem_of_getElem? (i := 25) rfl)) (S.2.2.2.2 _ (List.mem_of_getElem? (i := 26) rfl)) rfl (fun j hj => by rcases (show j = 0 ∨ j = 1 ∨ j = 2 ∨ j = 3 ∨ j = 4 ∨ j = 5 ∨ j = 6 by omega) with rfl | rfl | rfl | rfl | rfl | rfl | rfl <;> rfl) ⟨by decide, by decide⟩ dX10_init_79 (fun M82 H locs hM82 hV => ?_)
  have hc83 : M82 (c + 48) = some (sObj 2 [.null, .null, .null, .null, .null, .int (sI 0), .int (sI 0)]) := (congrFun hM82 (c + 48)).trans (va_up_self M80 (c + 48) _)
  refine lv_dup hx_ hb_ dX10_init_82 rfl ?_
  refine sk_IN E hV (As := []) (rest := [.ref (c + 48), .ref c]) (kX3_init l_ G b_ M82 (c + 49) (c + 48) hc83 (rfl)) ⟨va_cnB 0 S.2.2.2.2 gX10_init_X3_init_n53 rfl rfl rfl (E.2.2.2.2.2.1.1.2.2 _ (List.mem_of_getElem? (i := 3) rfl)) (S.2.2.2.2 _ (List.mem_of_getElem? (i := 26) rfl)) (by decide +kernel) ⟨Nat.le_of_ble_eq_true rfl, Nat.le_of_ble_eq_true rfl⟩, rfl, (S.2.2.2.2 _ (List.mem_of_getElem? (i := 109) rfl))⟩ rfl rfl hl.1 (Nat.le_of_ble_eq_true rfl) dX10_init_83 (c1 := 53) (s1 := 12989) ⟨⟨rfl, rfl⟩, by decide, by decide⟩ (fun M84 N85 H locs hp86 hV => ?_)
  obtain ⟨hN88, hc89, hc90, hc91, hc92, hc93, hc94, hf95⟩ := hp86
  subst hN88
  have hc96 : M84 c = some (sObj 8 [.ref (c + 1), .ref (c + 16), .ref (c + 31), .int (sI 0), .int (sI 0), .ref (c + 32), .ref (c + 34), .ref (c + 38), .null, .null, .null]) := ((hf95 c (by omega) (by omega) (by omega) (by omega) (by omega) (by omega)).trans ((congrFun hM82 c).trans (va_up_ne M80 _ (by omega)))).trans hc81
  refine sc_putF (ci := 8) (C := RX10) (T := TX10) (n := 11) S hK hV inX10_ tyX10_ok nmX10 hc96 rfl 8 (by decide) (S.2.2.2.2 _ (List.mem_of_getElem? (i := 27) rfl)) rfl rfl hnm rfl rfl rfl (Nat.le_of_ble_eq_true rfl) dX10_init_86 (fs1 := [.ref (c + 1), .ref (c + 16), .ref (c + 31), .int (sI 0), .int (sI 0), .ref (c + 32), .ref (c + 34), .ref (c + 38), .ref (c + 48), .null, .null]) rfl (fun M97 H locs hM97 hV => ?_)
  have hc98 : M97 c = some (sObj 8 [.ref (c + 1), .ref (c + 16), .ref (c + 31), .int (sI 0), .int (sI 0), .ref (c + 32), .ref (c + 34), .ref (c + 38), .ref (c + 48), .null, .null]) := (congrFun hM97 c).trans (va_up_self M84 c _)
  refine lv_aload_n hx_ hb_ dX10_init_89 rfl (lv_at hl 0 rfl) ?_
  refine sc_newo (ci := 5) (C := RX7) (T := TX7) (n := 3) (fs := [.null, .null, .int (sI 0)]) S hK hV inX7_ tyX7_ok (S.2.2.2.2 _ (List.mem_of_getElem? (i := 28) rfl)) (S.2.2.2.2 _ (List.mem_of_getElem? (i := 29) rfl)) (S.2.2.2.2 _ (List.mem_of_getElem? (i := 30) rfl)) rfl (fun j hj => by rcases (show j = 0 ∨ j = 1 ∨ j = 2 by omega) with rfl | rfl | rfl <;> rfl) ⟨by decide, by decide⟩ dX10_init_90 (fun M99 H locs hM99 hV => ?_)
  have hc100 : M99 (c + 54) = some (sObj 5 [.null, .null, .int (sI 0)]) := (congrFun hM99 (c + 54)).trans (va_up_self M97 (c + 54) _)
  refine lv_dup hx_ hb_ dX10_init_93 rfl ?_
  refine sk_IN E hV (As := []) (rest := [.ref (c + 54), .ref c]) (kX7_init l_ G b_ M99 (c + 55) (c + 54) hc100 (rfl)) ⟨va_cnB 0 S.2.2.2.2 gX10_init_X7_init_n60 rfl rfl rfl (E.2.2.2.2.2.1.1.2.2 _ (List.mem_of_getElem? (i := 4) rfl)) (S.2.2.2.2 _ (List.mem_of_getElem? (i := 30) rfl)) (by decide +kernel) ⟨Nat.le_of_ble_eq_true rfl, Nat.le_of_ble_eq_true rfl⟩, rfl, (S.2.2.2.2 _ (List.mem_of_getElem? (i := 120) rfl))⟩ rfl rfl hl.1 (Nat.le_of_ble_eq_true rfl) dX10_init_94 (c1 := 56) (s1 := 13114) ⟨⟨rfl, rfl⟩, by decide, by decide⟩ (fun M101 N102 H locs hp103 hV => ?_)
  obtain ⟨hN105, hc106, hc107, hc108, hf109⟩ := hp103
  subst hN105
  have hc110 : M101 c = some (sObj 8 [.ref (c + 1), .ref (c + 16), .ref (c + 31), .int (sI 0), .int (sI 0), .ref (c + 32), .ref (c + 34), .ref (c + 38), .ref (c + 48), .null, .null]) := ((hf109 c (by omega) (by omega) (by omega)).trans ((congrFun hM99 c).trans (va_up_ne M97 _ (by omega)))).trans hc98
  refine sc_putF (ci := 8) (C := RX10) (T := TX10) (n := 11) S hK hV inX10_ tyX10_ok nmX10 hc110 rfl 9 (by decide) (S.2.2.2.2 _ (List.mem_of_getElem? (i := 31) rfl)) rfl rfl hnm rfl rfl rfl (Nat.le_of_ble_eq_true rfl) dX10_init_97 (fs1 := [.ref (c + 1), .ref (c + 16), .ref (c + 31), .int (sI 0), .int (sI 0), .ref (c + 32), .ref (c + 34), .ref (c + 38), .ref (c + 48), .ref (c + 54), .null]) rfl (fun M111 H locs hM111 hV => ?_)
  have hc112 : M111 c = some (sObj 8 [.ref (c + 1), .ref (c + 16), .ref (c + 31), .int (sI 0), .int (sI 0), .ref (c + 32), .ref (c + 34), .ref (c + 38), .ref (c + 48), .ref (c + 54), .null]) := (congrFun hM111 c).trans (va_up_self M101 c _)
  refine lv_aload_n hx_ hb_ dX10_init_100 rfl (lv_at hl 0 rfl) ?_
  refine sc_newo (ci := 1) (C := RX2) (T := TX2) (n := 4) (fs := [.null, .null, .int (sI 0), .int (sI 0)]) S hK hV inX2_ tyX2_ok (S.2.2.2.2 _ (List.mem_of_getElem? (i := 32) rfl)) (S.2.2.2.2 _ (List.mem_of_getElem? (i := 33) rfl)) (S.2.2.2.2 _ (List.mem_of_getElem? (i := 34) rfl)) rfl (fun j hj => by rcases (show j = 0 ∨ j = 1 ∨ j = 2 ∨ j = 3 by omega) with rfl | rfl | rfl | rfl <;> rfl) ⟨by decide, by decide⟩ dX10_init_101 (fun M113 H locs hM113 hV => ?_)
  have hc114 : M113 (c + 57) = some (sObj 1 [.null, .null, .int (sI 0), .int (sI 0)]) := (congrFun hM113 (c + 57)).trans (va_up_self M111 (c + 57) _)
  refine lv_dup hx_ hb_ dX10_init_104 rfl ?_
  refine sk_IN E hV (As := []) (rest := [.ref (c + 57), .ref c]) (kX2_init l_ G b_ M113 (c + 58) (c + 57) hc114 (rfl)) ⟨va_cnB 0 S.2.2.2.2 gX10_init_X2_init_n67 rfl rfl rfl (E.2.2.2.2.2.1.1.2.2 _ (List.mem_of_getElem? (i := 5) rfl)) (S.2.2.2.2 _ (List.mem_of_getElem? (i := 34) rfl)) (by decide +kernel) ⟨Nat.le_of_ble_eq_true rfl, Nat.le_of_ble_eq_true rfl⟩, rfl, (S.2.2.2.2 _ (List.mem_of_getElem? (i := 126) rfl))⟩ rfl rfl hl.1 (Nat.le_of_ble_eq_true rfl) dX10_init_105 (c1 := 59) (s1 := 13382) ⟨⟨rfl, rfl⟩, by decide, by decide⟩ (fun M115 N116 H locs hp117 hV => ?_)
  obtain ⟨hN119, hc120, hc121, hc122, hf123⟩ := hp117
  subst hN119
  have hc124 : M115 c = some (sObj 8 [.ref (c + 1), .ref (c + 16), .ref (c + 31), .int (sI 0), .int (sI 0), .ref (c + 32), .ref (c + 34), .ref (c + 38), .ref (c + 48), .ref (c + 54), .null]) := ((hf123 c (by omega) (by omega) (by omega)).trans ((congrFun hM113 c).trans (va_up_ne M111 _ (by omega)))).trans hc112
  refine sc_putF (ci := 8) (C := RX10) (T := TX10) (n := 11) S hK hV inX10_ tyX10_ok nmX10 hc124 rfl 10 (by decide) (S.2.2.2.2 _ (List.mem_of_getElem? (i := 35) rfl)) rfl rfl hnm rfl rfl rfl (Nat.le_of_ble_eq_true rfl) dX10_init_108 (fs1 := [.ref (c + 1), .ref (c + 16), .ref (c + 31), .int (sI 0), .int (sI 0), .ref (c + 32), .ref (c + 34), .ref (c + 38), .ref (c + 48), .ref (c + 54), .ref (c + 57)]) rfl (fun M125 H locs hM125 hV => ?_)
  have hc126 : M125 c = some (xO c 0 0) := (congrFun hM125 c).trans (va_up_self M115 c _)
  have hc127 : stC G M125 (c + 1) f0 := hc8.fr (fun x q8 q9 => ((((((((((((((((((((((((((congrFun hM125 x).trans (va_up_ne M115 _ (by omega))).trans (hf123 x (by omega) (by omega) (by omega))).trans ((congrFun hM113 x).trans (va_up_ne M111 _ (by omega)))).trans ((congrFun hM111 x).trans (va_up_ne M101 _ (by omega)))).trans (hf109 x (by omega) (by omega) (by omega))).trans ((congrFun hM99 x).trans (va_up_ne M97 _ (by omega)))).trans ((congrFun hM97 x).trans (va_up_ne M84 _ (by omega)))).trans (hf95 x (by omega) (by omega) (by omega) (by omega) (by omega) (by omega))).trans ((congrFun hM82 x).trans (va_up_ne M80 _ (by omega)))).trans ((congrFun hM80 x).trans (va_up_ne M63 _ (by omega)))).trans (hf78 x (by omega) (by omega) (by omega) (by omega) (by omega) (by omega) (by omega) (by omega) (by omega) (by omega))).trans ((congrFun hM61 x).trans (va_up_ne M59 _ (by omega)))).trans ((congrFun hM59 x).trans (va_up_ne M49 _ (by omega)))).trans (hf57 x (by omega) (by omega) (by omega) (by omega))).trans ((congrFun hM47 x).trans (va_up_ne M45 _ (by omega)))).trans ((congrFun hM45 x).trans (va_up_ne M36 _ (by omega)))).trans (hf43 x (by omega) (by omega))).trans ((congrFun hM34 x).trans (va_up_ne M32 _ (by omega)))).trans ((congrFun hM32 x).trans (va_up_ne M30 _ (by omega)))).trans ((congrFun hM30 x).trans (va_up_ne M28 _ (by omega)))).trans ((congrFun hM28 x).trans (va_up_ne M25 _ (by omega)))).trans ((congrFun hM25 x).trans (va_up_ne M23 _ (by omega)))).trans ((congrFun hM23 x).trans (va_up_ne M15 _ (by omega)))).trans (hf21 x (by omega))).trans ((congrFun hM13 x).trans (va_up_ne M11 _ (by omega)))).trans ((congrFun hM11 x).trans (va_up_ne M3 _ (by omega))))
  have hc128 : stC G M125 (c + 16) f0 := hc20.fr (fun x q8 q9 => (((((((((((((((((((((((congrFun hM125 x).trans (va_up_ne M115 _ (by omega))).trans (hf123 x (by omega) (by omega) (by omega))).trans ((congrFun hM113 x).trans (va_up_ne M111 _ (by omega)))).trans ((congrFun hM111 x).trans (va_up_ne M101 _ (by omega)))).trans (hf109 x (by omega) (by omega) (by omega))).trans ((congrFun hM99 x).trans (va_up_ne M97 _ (by omega)))).trans ((congrFun hM97 x).trans (va_up_ne M84 _ (by omega)))).trans (hf95 x (by omega) (by omega) (by omega) (by omega) (by omega) (by omega))).trans ((congrFun hM82 x).trans (va_up_ne M80 _ (by omega)))).trans ((congrFun hM80 x).trans (va_up_ne M63 _ (by omega)))).trans (hf78 x (by omega) (by omega) (by omega) (by omega) (by omega) (by omega) (by omega) (by omega) (by omega) (by omega))).trans ((congrFun hM61 x).trans (va_up_ne M59 _ (by omega)))).trans ((congrFun hM59 x).trans (va_up_ne M49 _ (by omega)))).trans (hf57 x (by omega) (by omega) (by omega) (by omega))).trans ((congrFun hM47 x).trans (va_up_ne M45 _ (by omega)))).trans ((congrFun hM45 x).trans (va_up_ne M36 _ (by omega)))).trans (hf43 x (by omega) (by omega))).trans ((congrFun hM34 x).trans (va_up_ne M32 _ (by omega)))).trans ((congrFun hM32 x).trans (va_up_ne M30 _ (by omega)))).trans ((congrFun hM30 x).trans (va_up_ne M28 _ (by omega)))).trans ((congrFun hM28 x).trans (va_up_ne M25 _ (by omega)))).trans ((congrFun hM25 x).trans (va_up_ne M23 _ (by omega)))).trans ((congrFun hM23 x).trans (va_up_ne M15 _ (by omega))))
  have hc129 : M125 (c + 31) = some (sArS G 15 (fun _ => none)) := ((((((((((((((((((((((congrFun hM125 (c + 31)).trans (va_up_ne M115 _ (by omega))).trans (hf123 (c + 31) (by omega) (by omega) (by omega))).trans ((congrFun hM113 (c + 31)).trans (va_up_ne M111 _ (by omega)))).trans ((congrFun hM111 (c + 31)).trans (va_up_ne M101 _ (by omega)))).trans (hf109 (c + 31) (by omega) (by omega) (by omega))).trans ((congrFun hM99 (c + 31)).trans (va_up_ne M97 _ (by omega)))).trans ((congrFun hM97 (c + 31)).trans (va_up_ne M84 _ (by omega)))).trans (hf95 (c + 31) (by omega) (by omega) (by omega) (by omega) (by omega) (by omega))).trans ((congrFun hM82 (c + 31)).trans (va_up_ne M80 _ (by omega)))).trans ((congrFun hM80 (c + 31)).trans (va_up_ne M63 _ (by omega)))).trans (hf78 (c + 31) (by omega) (by omega) (by omega) (by omega) (by omega) (by omega) (by omega) (by omega) (by omega) (by omega))).trans ((congrFun hM61 (c + 31)).trans (va_up_ne M59 _ (by omega)))).trans ((congrFun hM59 (c + 31)).trans (va_up_ne M49 _ (by omega)))).trans (hf57 (c + 31) (by omega) (by omega) (by omega) (by omega))).trans ((congrFun hM47 (c + 31)).trans (va_up_ne M45 _ (by omega)))).trans ((congrFun hM45 (c + 31)).trans (va_up_ne M36 _ (by omega)))).trans (hf43 (c + 31) (by omega) (by omega))).trans ((congrFun hM34 (c + 31)).trans (va_up_ne M32 _ (by omega)))).trans ((congrFun hM32 (c + 31)).trans (va_up_ne M30 _ (by omega)))).trans ((congrFun hM30 (c + 31)).trans (va_up_ne M28 _ (by omega)))).trans ((congrFun hM28 (c + 31)).trans (va_up_ne M25 _ (by omega)))).trans hc26
  have hc130 : M125 (c + 32) = some (sObj 7 [.ref (c + 33), .int (sI 0), .int (sI (-1))]) := (((((((((((((((((congrFun hM125 (c + 32)).trans (va_up_ne M115 _ (by omega))).trans (hf123 (c + 32) (by omega) (by omega) (by omega))).trans ((congrFun hM113 (c + 32)).trans (va_up_ne M111 _ (by omega)))).trans ((congrFun hM111 (c + 32)).trans (va_up_ne M101 _ (by omega)))).trans (hf109 (c + 32) (by omega) (by omega) (by omega))).trans ((congrFun hM99 (c + 32)).trans (va_up_ne M97 _ (by omega)))).trans ((congrFun hM97 (c + 32)).trans (va_up_ne M84 _ (by omega)))).trans (hf95 (c + 32) (by omega) (by omega) (by omega) (by omega) (by omega) (by omega))).trans ((congrFun hM82 (c + 32)).trans (va_up_ne M80 _ (by omega)))).trans ((congrFun hM80 (c + 32)).trans (va_up_ne M63 _ (by omega)))).trans (hf78 (c + 32) (by omega) (by omega) (by omega) (by omega) (by omega) (by omega) (by omega) (by omega) (by omega) (by omega))).trans ((congrFun hM61 (c + 32)).trans (va_up_ne M59 _ (by omega)))).trans ((congrFun hM59 (c + 32)).trans (va_up_ne M49 _ (by omega)))).trans (hf57 (c + 32) (by omega) (by omega) (by omega) (by omega))).trans ((congrFun hM47 (c + 32)).trans (va_up_ne M45 _ (by omega)))).trans ((congrFun hM45 (c + 32)).trans (va_up_ne M36 _ (by omega)))).trans hc41
  have hc131 : M125 (c + 33) = some (sArr G 300 (fun _ => 0)) := (((((((((((((((((congrFun hM125 (c + 33)).trans (va_up_ne M115 _ (by omega))).trans (hf123 (c + 33) (by omega) (by omega) (by omega))).trans ((congrFun hM113 (c + 33)).trans (va_up_ne M111 _ (by omega)))).trans ((congrFun hM111 (c + 33)).trans (va_up_ne M101 _ (by omega)))).trans (hf109 (c + 33) (by omega) (by omega) (by omega))).trans ((congrFun hM99 (c + 33)).trans (va_up_ne M97 _ (by omega)))).trans ((congrFun hM97 (c + 33)).trans (va_up_ne M84 _ (by omega)))).trans (hf95 (c + 33) (by omega) (by omega) (by omega) (by omega) (by omega) (by omega))).trans ((congrFun hM82 (c + 33)).trans (va_up_ne M80 _ (by omega)))).trans ((congrFun hM80 (c + 33)).trans (va_up_ne M63 _ (by omega)))).trans (hf78 (c + 33) (by omega) (by omega) (by omega) (by omega) (by omega) (by omega) (by omega) (by omega) (by omega) (by omega))).trans ((congrFun hM61 (c + 33)).trans (va_up_ne M59 _ (by omega)))).trans ((congrFun hM59 (c + 33)).trans (va_up_ne M49 _ (by omega)))).trans (hf57 (c + 33) (by omega) (by omega) (by omega) (by omega))).trans ((congrFun hM47 (c + 33)).trans (va_up_ne M45 _ (by omega)))).trans ((congrFun hM45 (c + 33)).trans (va_up_ne M36 _ (by omega)))).trans hc42
  have hc132 : M125 (c + 34) = some (sObj 0 [.ref (c + 35), .ref (c + 37), .int (sI 0), .int (sI 0), .int (sI 0), .int (sI 0), .int (sI 0)]) := ((((((((((((((congrFun hM125 (c + 34)).trans (va_up_ne M115 _ (by omega))).trans (hf123 (c + 34) (by omega) (by omega) (by omega))).trans ((congrFun hM113 (c + 34)).trans (va_up_ne M111 _ (by omega)))).trans ((congrFun hM111 (c + 34)).trans (va_up_ne M101 _ (by omega)))).trans (hf109 (c + 34) (by omega) (by omega) (by omega))).trans ((congrFun hM99 (c + 34)).trans (va_up_ne M97 _ (by omega)))).trans ((congrFun hM97 (c + 34)).trans (va_up_ne M84 _ (by omega)))).trans (hf95 (c + 34) (by omega) (by omega) (by omega) (by omega) (by omega) (by omega))).trans ((congrFun hM82 (c + 34)).trans (va_up_ne M80 _ (by omega)))).trans ((congrFun hM80 (c + 34)).trans (va_up_ne M63 _ (by omega)))).trans (hf78 (c + 34) (by omega) (by omega) (by omega) (by omega) (by omega) (by omega) (by omega) (by omega) (by omega) (by omega))).trans ((congrFun hM61 (c + 34)).trans (va_up_ne M59 _ (by omega)))).trans ((congrFun hM59 (c + 34)).trans (va_up_ne M49 _ (by omega)))).trans hc54
  have hc133 : stK G M125 (c + 35) 5 0 165 (fun _ _ => 0) := hc55.fr (fun x q8 q9 => (((((((((((((congrFun hM125 x).trans (va_up_ne M115 _ (by omega))).trans (hf123 x (by omega) (by omega) (by omega))).trans ((congrFun hM113 x).trans (va_up_ne M111 _ (by omega)))).trans ((congrFun hM111 x).trans (va_up_ne M101 _ (by omega)))).trans (hf109 x (by omega) (by omega) (by omega))).trans ((congrFun hM99 x).trans (va_up_ne M97 _ (by omega)))).trans ((congrFun hM97 x).trans (va_up_ne M84 _ (by omega)))).trans (hf95 x (by omega) (by omega) (by omega) (by omega) (by omega) (by omega))).trans ((congrFun hM82 x).trans (va_up_ne M80 _ (by omega)))).trans ((congrFun hM80 x).trans (va_up_ne M63 _ (by omega)))).trans (hf78 x (by omega) (by omega) (by omega) (by omega) (by omega) (by omega) (by omega) (by omega) (by omega) (by omega))).trans ((congrFun hM61 x).trans (va_up_ne M59 _ (by omega)))).trans ((congrFun hM59 x).trans (va_up_ne M49 _ (by omega))))
  have hc134 : M125 (c + 37) = some (sArC G 180 (fun _ => 0)) := ((((((((((((((congrFun hM125 (c + 37)).trans (va_up_ne M115 _ (by omega))).trans (hf123 (c + 37) (by omega) (by omega) (by omega))).trans ((congrFun hM113 (c + 37)).trans (va_up_ne M111 _ (by omega)))).trans ((congrFun hM111 (c + 37)).trans (va_up_ne M101 _ (by omega)))).trans (hf109 (c + 37) (by omega) (by omega) (by omega))).trans ((congrFun hM99 (c + 37)).trans (va_up_ne M97 _ (by omega)))).trans ((congrFun hM97 (c + 37)).trans (va_up_ne M84 _ (by omega)))).trans (hf95 (c + 37) (by omega) (by omega) (by omega) (by omega) (by omega) (by omega))).trans ((congrFun hM82 (c + 37)).trans (va_up_ne M80 _ (by omega)))).trans ((congrFun hM80 (c + 37)).trans (va_up_ne M63 _ (by omega)))).trans (hf78 (c + 37) (by omega) (by omega) (by omega) (by omega) (by omega) (by omega) (by omega) (by omega) (by omega) (by omega))).trans ((congrFun hM61 (c + 37)).trans (va_up_ne M59 _ (by omega)))).trans ((congrFun hM59 (c + 37)).trans (va_up_ne M49 _ (by omega)))).trans hc56
  have hc135 : M125 (c + 38) = some (sObj 3 [.ref (c + 39), .ref (c + 40), .ref (c + 41), .ref (c + 42), .ref (c + 43), .ref (c + 44), .ref (c + 45), .ref (c + 46), .ref (c + 47), .int (sI 0), .int (sI (-1))]) := (((((((((((congrFun hM125 (c + 38)).trans (va_up_ne M115 _ (by omega))).trans (hf123 (c + 38) (by omega) (by omega) (by omega))).trans ((congrFun hM113 (c + 38)).trans (va_up_ne M111 _ (by omega)))).trans ((congrFun hM111 (c + 38)).trans (va_up_ne M101 _ (by omega)))).trans (hf109 (c + 38) (by omega) (by omega) (by omega))).trans ((congrFun hM99 (c + 38)).trans (va_up_ne M97 _ (by omega)))).trans ((congrFun hM97 (c + 38)).trans (va_up_ne M84 _ (by omega)))).trans (hf95 (c + 38) (by omega) (by omega) (by omega) (by omega) (by omega) (by omega))).trans ((congrFun hM82 (c + 38)).trans (va_up_ne M80 _ (by omega)))).trans ((congrFun hM80 (c + 38)).trans (va_up_ne M63 _ (by omega)))).trans hc68
  have hc136 : M125 (c + 39) = some (sArr G 10 (fun _ => 0)) := (((((((((((congrFun hM125 (c + 39)).trans (va_up_ne M115 _ (by omega))).trans (hf123 (c + 39) (by omega) (by omega) (by omega))).trans ((congrFun hM113 (c + 39)).trans (va_up_ne M111 _ (by omega)))).trans ((congrFun hM111 (c + 39)).trans (va_up_ne M101 _ (by omega)))).trans (hf109 (c + 39) (by omega) (by omega) (by omega))).trans ((congrFun hM99 (c + 39)).trans (va_up_ne M97 _ (by omega)))).trans ((congrFun hM97 (c + 39)).trans (va_up_ne M84 _ (by omega)))).trans (hf95 (c + 39) (by omega) (by omega) (by omega) (by omega) (by omega) (by omega))).trans ((congrFun hM82 (c + 39)).trans (va_up_ne M80 _ (by omega)))).trans ((congrFun hM80 (c + 39)).trans (va_up_ne M63 _ (by omega)))).trans hc69
  have hc137 : M125 (c + 40) = some (sArr G 10 (fun _ => 0)) := (((((((((((congrFun hM125 (c + 40)).trans (va_up_ne M115 _ (by omega))).trans (hf123 (c + 40) (by omega) (by omega) (by omega))).trans ((congrFun hM113 (c + 40)).trans (va_up_ne M111 _ (by omega)))).trans ((congrFun hM111 (c + 40)).trans (va_up_ne M101 _ (by omega)))).trans (hf109 (c + 40) (by omega) (by omega) (by omega))).trans ((congrFun hM99 (c + 40)).trans (va_up_ne M97 _ (by omega)))).trans ((congrFun hM97 (c + 40)).trans (va_up_ne M84 _ (by omega)))).trans (hf95 (c + 40) (by omega) (by omega) (by omega) (by omega) (by omega) (by omega))).trans ((congrFun hM82 (c + 40)).trans (va_up_ne M80 _ (by omega)))).trans ((congrFun hM80 (c + 40)).trans (va_up_ne M63 _ (by omega)))).trans hc70
  have hc138 : M125 (c + 41) = some (sArr G 10 (fun _ => 0)) := (((((((((((congrFun hM125 (c + 41)).trans (va_up_ne M115 _ (by omega))).trans (hf123 (c + 41) (by omega) (by omega) (by omega))).trans ((congrFun hM113 (c + 41)).trans (va_up_ne M111 _ (by omega)))).trans ((congrFun hM111 (c + 41)).trans (va_up_ne M101 _ (by omega)))).trans (hf109 (c + 41) (by omega) (by omega) (by omega))).trans ((congrFun hM99 (c + 41)).trans (va_up_ne M97 _ (by omega)))).trans ((congrFun hM97 (c + 41)).trans (va_up_ne M84 _ (by omega)))).trans (hf95 (c + 41) (by omega) (by omega) (by omega) (by omega) (by omega) (by omega))).trans ((congrFun hM82 (c + 41)).trans (va_up_ne M80 _ (by omega)))).trans ((congrFun hM80 (c + 41)).trans (va_up_ne M63 _ (by omega)))).trans hc71
  have hc139 : M125 (c + 42) = some (sArr G 1024 (fun _ => 0)) := (((((((((((congrFun hM125 (c + 42)).trans (va_up_ne M115 _ (by omega))).trans (hf123 (c + 42) (by omega) (by omega) (by omega))).trans ((congrFun hM113 (c + 42)).trans (va_up_ne M111 _ (by omega)))).trans ((congrFun hM111 (c + 42)).trans (va_up_ne M101 _ (by omega)))).trans (hf109 (c + 42) (by omega) (by omega) (by omega))).trans ((congrFun hM99 (c + 42)).trans (va_up_ne M97 _ (by omega)))).trans ((congrFun hM97 (c + 42)).trans (va_up_ne M84 _ (by omega)))).trans (hf95 (c + 42) (by omega) (by omega) (by omega) (by omega) (by omega) (by omega))).trans ((congrFun hM82 (c + 42)).trans (va_up_ne M80 _ (by omega)))).trans ((congrFun hM80 (c + 42)).trans (va_up_ne M63 _ (by omega)))).trans hc72
  have hc140 : M125 (c + 43) = some (sArr G 1024 (fun _ => 0)) := (((((((((((congrFun hM125 (c + 43)).trans (va_up_ne M115 _ (by omega))).trans (hf123 (c + 43) (by omega) (by omega) (by omega))).trans ((congrFun hM113 (c + 43)).trans (va_up_ne M111 _ (by omega)))).trans ((congrFun hM111 (c + 43)).trans (va_up_ne M101 _ (by omega)))).trans (hf109 (c + 43) (by omega) (by omega) (by omega))).trans ((congrFun hM99 (c + 43)).trans (va_up_ne M97 _ (by omega)))).trans ((congrFun hM97 (c + 43)).trans (va_up_ne M84 _ (by omega)))).trans (hf95 (c + 43) (by omega) (by omega) (by omega) (by omega) (by omega) (by omega))).trans ((congrFun hM82 (c + 43)).trans (va_up_ne M80 _ (by omega)))).trans ((congrFun hM80 (c + 43)).trans (va_up_ne M63 _ (by omega)))).trans hc73
  have hc141 : M125 (c + 44) = some (sArr G 100 (fun _ => 0)) := (((((((((((congrFun hM125 (c + 44)).trans (va_up_ne M115 _ (by omega))).trans (hf123 (c + 44) (by omega) (by omega) (by omega))).trans ((congrFun hM113 (c + 44)).trans (va_up_ne M111 _ (by omega)))).trans ((congrFun hM111 (c + 44)).trans (va_up_ne M101 _ (by omega)))).trans (hf109 (c + 44) (by omega) (by omega) (by omega))).trans ((congrFun hM99 (c + 44)).trans (va_up_ne M97 _ (by omega)))).trans ((congrFun hM97 (c + 44)).trans (va_up_ne M84 _ (by omega)))).trans (hf95 (c + 44) (by omega) (by omega) (by omega) (by omega) (by omega) (by omega))).trans ((congrFun hM82 (c + 44)).trans (va_up_ne M80 _ (by omega)))).trans ((congrFun hM80 (c + 44)).trans (va_up_ne M63 _ (by omega)))).trans hc74
  have hc142 : M125 (c + 45) = some (sArr G 100 (fun _ => 0)) := (((((((((((congrFun hM125 (c + 45)).trans (va_up_ne M115 _ (by omega))).trans (hf123 (c + 45) (by omega) (by omega) (by omega))).trans ((congrFun hM113 (c + 45)).trans (va_up_ne M111 _ (by omega)))).trans ((congrFun hM111 (c + 45)).trans (va_up_ne M101 _ (by omega)))).trans (hf109 (c + 45) (by omega) (by omega) (by omega))).trans ((congrFun hM99 (c + 45)).trans (va_up_ne M97 _ (by omega)))).trans ((congrFun hM97 (c + 45)).trans (va_up_ne M84 _ (by omega)))).trans (hf95 (c + 45) (by omega) (by omega) (by omega) (by omega) (by omega) (by omega))).trans ((congrFun hM82 (c + 45)).trans (va_up_ne M80 _ (by omega)))).trans ((congrFun hM80 (c + 45)).trans (va_up_ne M63 _ (by omega)))).trans hc75
  have hc143 : M125 (c + 46) = some (sArr G 11 (fun _ => 0)) := (((((((((((congrFun hM125 (c + 46)).trans (va_up_ne M115 _ (by omega))).trans (hf123 (c + 46) (by omega) (by omega) (by omega))).trans ((congrFun hM113 (c + 46)).trans (va_up_ne M111 _ (by omega)))).trans ((congrFun hM111 (c + 46)).trans (va_up_ne M101 _ (by omega)))).trans (hf109 (c + 46) (by omega) (by omega) (by omega))).trans ((congrFun hM99 (c + 46)).trans (va_up_ne M97 _ (by omega)))).trans ((congrFun hM97 (c + 46)).trans (va_up_ne M84 _ (by omega)))).trans (hf95 (c + 46) (by omega) (by omega) (by omega) (by omega) (by omega) (by omega))).trans ((congrFun hM82 (c + 46)).trans (va_up_ne M80 _ (by omega)))).trans ((congrFun hM80 (c + 46)).trans (va_up_ne M63 _ (by omega)))).trans hc76
  have hc144 : M125 (c + 47) = some (sArr G 10 (fun _ => 0)) := (((((((((((congrFun hM125 (c + 47)).trans (va_up_ne M115 _ (by omega))).trans (hf123 (c + 47) (by omega) (by omega) (by omega))).trans ((congrFun hM113 (c + 47)).trans (va_up_ne M111 _ (by omega)))).trans ((congrFun hM111 (c + 47)).trans (va_up_ne M101 _ (by omega)))).trans (hf109 (c + 47) (by omega) (by omega) (by omega))).trans ((congrFun hM99 (c + 47)).trans (va_up_ne M97 _ (by omega)))).trans ((congrFun hM97 (c + 47)).trans (va_up_ne M84 _ (by omega)))).trans (hf95 (c + 47) (by omega) (by omega) (by omega) (by omega) (by omega) (by omega))).trans ((congrFun hM82 (c + 47)).trans (va_up_ne M80 _ (by omega)))).trans ((congrFun hM80 (c + 47)).trans (va_up_ne M63 _ (by omega)))).trans hc77
  have hc145 : M125 (c + 48) = some (sObj 2 [.ref (c + 49), .ref (c + 50), .ref (c + 51), .ref (c + 52), .ref (c + 53), .int (sI 0), .int (sI 268435456)]) := ((((((((congrFun hM125 (c + 48)).trans (va_up_ne M115 _ (by omega))).trans (hf123 (c + 48) (by omega) (by omega) (by omega))).trans ((congrFun hM113 (c + 48)).trans (va_up_ne M111 _ (by omega)))).trans ((congrFun hM111 (c + 48)).trans (va_up_ne M101 _ (by omega)))).trans (hf109 (c + 48) (by omega) (by omega) (by omega))).trans ((congrFun hM99 (c + 48)).trans (va_up_ne M97 _ (by omega)))).trans ((congrFun hM97 (c + 48)).trans (va_up_ne M84 _ (by omega)))).trans hc89
  have hc146 : M125 (c + 49) = some (sArr G 1024 (fun _ => 0)) := ((((((((congrFun hM125 (c + 49)).trans (va_up_ne M115 _ (by omega))).trans (hf123 (c + 49) (by omega) (by omega) (by omega))).trans ((congrFun hM113 (c + 49)).trans (va_up_ne M111 _ (by omega)))).trans ((congrFun hM111 (c + 49)).trans (va_up_ne M101 _ (by omega)))).trans (hf109 (c + 49) (by omega) (by omega) (by omega))).trans ((congrFun hM99 (c + 49)).trans (va_up_ne M97 _ (by omega)))).trans ((congrFun hM97 (c + 49)).trans (va_up_ne M84 _ (by omega)))).trans hc90
  have hc147 : M125 (c + 50) = some (sArr G 1024 (fun _ => 0)) := ((((((((congrFun hM125 (c + 50)).trans (va_up_ne M115 _ (by omega))).trans (hf123 (c + 50) (by omega) (by omega) (by omega))).trans ((congrFun hM113 (c + 50)).trans (va_up_ne M111 _ (by omega)))).trans ((congrFun hM111 (c + 50)).trans (va_up_ne M101 _ (by omega)))).trans (hf109 (c + 50) (by omega) (by omega) (by omega))).trans ((congrFun hM99 (c + 50)).trans (va_up_ne M97 _ (by omega)))).trans ((congrFun hM97 (c + 50)).trans (va_up_ne M84 _ (by omega)))).trans hc91
  have hc148 : M125 (c + 51) = some (sArr G 1024 (fun _ => 0)) := ((((((((congrFun hM125 (c + 51)).trans (va_up_ne M115 _ (by omega))).trans (hf123 (c + 51) (by omega) (by omega) (by omega))).trans ((congrFun hM113 (c + 51)).trans (va_up_ne M111 _ (by omega)))).trans ((congrFun hM111 (c + 51)).trans (va_up_ne M101 _ (by omega)))).trans (hf109 (c + 51) (by omega) (by omega) (by omega))).trans ((congrFun hM99 (c + 51)).trans (va_up_ne M97 _ (by omega)))).trans ((congrFun hM97 (c + 51)).trans (va_up_ne M84 _ (by omega)))).trans hc92
  have hc149 : M125 (c + 52) = some (sArr G 1024 (fun _ => 0)) := ((((((((congrFun hM125 (c + 52)).trans (va_up_ne M115 _ (by omega))).trans (hf123 (c + 52) (by omega) (by omega) (by omega))).trans ((congrFun hM113 (c + 52)).trans (va_up_ne M111 _ (by omega)))).trans ((congrFun hM111 (c + 52)).trans (va_up_ne M101 _ (by omega)))).trans (hf109 (c + 52) (by omega) (by omega) (by omega))).trans ((congrFun hM99 (c + 52)).trans (va_up_ne M97 _ (by omega)))).trans ((congrFun hM97 (c + 52)).trans (va_up_ne M84 _ (by omega)))).trans hc93
  have hc150 : M125 (c + 53) = some (sArr G 10 (fun _ => 0)) := ((((((((congrFun hM125 (c + 53)).trans (va_up_ne M115 _ (by omega))).trans (hf123 (c + 53) (by omega) (by omega) (by omega))).trans ((congrFun hM113 (c + 53)).trans (va_up_ne M111 _ (by omega)))).trans ((congrFun hM111 (c + 53)).trans (va_up_ne M101 _ (by omega)))).trans (hf109 (c + 53) (by omega) (by omega) (by omega))).trans ((congrFun hM99 (c + 53)).trans (va_up_ne M97 _ (by omega)))).trans ((congrFun hM97 (c + 53)).trans (va_up_ne M84 _ (by omega)))).trans hc94
  have hc151 : M125 (c + 54) = some (sObj 5 [.ref (c + 55), .ref (c + 56), .int (sI 0)]) := (((((congrFun hM125 (c + 54)).trans (va_up_ne M115 _ (by omega))).trans (hf123 (c + 54) (by omega) (by omega) (by omega))).trans ((congrFun hM113 (c + 54)).trans (va_up_ne M111 _ (by omega)))).trans ((congrFun hM111 (c + 54)).trans (va_up_ne M101 _ (by omega)))).trans hc106
  have hc152 : M125 (c + 55) = some (sArr G 61 (fun _ => 0)) := (((((congrFun hM125 (c + 55)).trans (va_up_ne M115 _ (by omega))).trans (hf123 (c + 55) (by omega) (by omega) (by omega))).trans ((congrFun hM113 (c + 55)).trans (va_up_ne M111 _ (by omega)))).trans ((congrFun hM111 (c + 55)).trans (va_up_ne M101 _ (by omega)))).trans hc107
  have hc153 : M125 (c + 56) = some (sArr G 61 (fun _ => 0)) := (((((congrFun hM125 (c + 56)).trans (va_up_ne M115 _ (by omega))).trans (hf123 (c + 56) (by omega) (by omega) (by omega))).trans ((congrFun hM113 (c + 56)).trans (va_up_ne M111 _ (by omega)))).trans ((congrFun hM111 (c + 56)).trans (va_up_ne M101 _ (by omega)))).trans hc108
  have hc154 : M125 (c + 57) = some (sObj 1 [.ref (c + 58), .ref (c + 59), .int (sI 0), .int (sI 0)]) := ((congrFun hM125 (c + 57)).trans (va_up_ne M115 _ (by omega))).trans hc120
  have hc155 : M125 (c + 58) = some (sArr G 256 (fun _ => 0)) := ((congrFun hM125 (c + 58)).trans (va_up_ne M115 _ (by omega))).trans hc121
  have hc156 : M125 (c + 59) = some (sArr G 8 (fun _ => 0)) := ((congrFun hM125 (c + 59)).trans (va_up_ne M115 _ (by omega))).trans hc122
  exact sr_v E hQ dX10_init_111 ⟨Nat.le_of_ble_eq_true rfl, Nat.le_of_ble_eq_true rfl⟩ hV (⟨by omega, hc126, hc127, hc128, hc129, hc130, hc131, hc132, hc133, hc134, hc135, hc136, hc137, hc138, hc139, hc140, hc141, hc142, hc143, hc144, hc145, hc146, hc147, hc148, hc149, hc150, hc151, hc152, hc153, hc154, hc155, hc156, fun x q0 => ((((((((((((((((((((((((((((congrFun hM125 x).trans (va_up_ne M115 _ (by omega))).trans (hf123 x (by omega) (by omega) (by omega))).trans ((congrFun hM113 x).trans (va_up_ne M111 _ (by omega)))).trans ((congrFun hM111 x).trans (va_up_ne M101 _ (by omega)))).trans (hf109 x (by omega) (by omega) (by omega))).trans ((congrFun hM99 x).trans (va_up_ne M97 _ (by omega)))).trans ((congrFun hM97 x).trans (va_up_ne M84 _ (by omega)))).trans (hf95 x (by omega) (by omega) (by omega) (by omega) (by omega) (by omega))).trans ((congrFun hM82 x).trans (va_up_ne M80 _ (by omega)))).trans ((congrFun hM80 x).trans (va_up_ne M63 _ (by omega)))).trans (hf78 x (by omega) (by omega) (by omega) (by omega) (by omega) (by omega) (by omega) (by omega) (by omega) (by omega))).trans ((congrFun hM61 x).trans (va_up_ne M59 _ (by omega)))).trans ((congrFun hM59 x).trans (va_up_ne M49 _ (by omega)))).trans (hf57 x (by omega) (by omega) (by omega) (by omega))).trans ((congrFun hM47 x).trans (va_up_ne M45 _ (by omega)))).trans ((congrFun hM45 x).trans (va_up_ne M36 _ (by omega)))).trans (hf43 x (by omega) (by omega))).trans ((congrFun hM34 x).trans (va_up_ne M32 _ (by omega)))).trans ((congrFun hM32 x).trans (va_up_ne M30 _ (by omega)))).trans ((congrFun hM30 x).trans (va_up_ne M28 _ (by omega)))).trans ((congrFun hM28 x).trans (va_up_ne M25 _ (by omega)))).trans ((congrFun hM25 x).trans (va_up_ne M23 _ (by omega)))).trans ((congrFun hM23 x).trans (va_up_ne M15 _ (by omega)))).trans (hf21 x (by omega))).trans ((congrFun hM13 x).trans (va_up_ne M11 _ (by omega)))).trans ((congrFun hM11 x).trans (va_up_ne M3 _ (by omega)))).trans (hf9 x (by omega))).trans ((congrFun hM1 x).trans (va_up_ne M _ (by omega)))⟩)

abbrev rmX10_append : Room := { frames := 6, cells := 1, slots := 6, locals := 100 }
set_option maxHeartbeats 4000000 in
set_option maxRecDepth 100000 in
theorem kX10_append (l_ : Launch) (G : sG) (b_ : Nat) (M : sM) (N : Nat) (c : Nat) (kn ch : Int) (tn te : Int) (t : sF) (v1 v2 v3 v4 v5 : Int) (hc0 : M c = some (xO c kn ch)) (ht0 : M (c + 32) = some (sObj 7 [.ref (c + 33), .int (sI tn), .int (sI te)])) (ht1 : M (c + 33) = some (sArr G 300 t)) (hlt : l_.stackTraces = false) (hn : 0 ≤ tn ∧ tn ≤ 300) : xcI l_ yX10_append wsX10_append rmX10_append G b_ M N [.ref c, .int (sI v1), .int (sI v2), .int (sI v3), .int (sI v4), .int (sI v5)] (fun z_ M1 N1 => N1 = N ∧ (∀ x : Nat, ¬ (x = c + 32) → ¬ (x = c + 33) → M1 x = M x) ∧ (((tn + apB v1 v2 v3 v4 v5 ≤ 300) ∧ z_ = tn + apB v1 v2 v3 v4 v5 ∧ M1 (c + 32) = some (sObj 7 [.ref (c + 33), .int (sI (tn + apB v1 v2 v3 v4 v5)), .int (sI te)]) ∧ M1 (c + 33) = some (sArr G 300 (apT t tn v1 v2 v3 v4 v5))))) (fun E_ M1 N1 => N ≤ N1 ∧ (∀ x : Nat, ¬ (x = c + 32) → ¬ (x = c + 33) → M1 x = M x) ∧ (((300 < tn + apB v1 v2 v3 v4 v5) ∧ E_ = "java/lang/IllegalStateException" ∧ M1 (c + 32) = some (sObj 7 [.ref (c + 33), .int (sI tn), .int (sI te)]) ∧ M1 (c + 33) = some (sArr G 300 t)))) := by
  refine xcE.ofI (cc := cX10_append) (nL := 7) (ret := (some .int)) (by decide) rfl (Nat.le_of_ble_eq_true rfl) ?_
  intro p_ e_ s_ m_ args_ below_ meth_ c_ ls Q hQ E hF_ hxt_ hl
  have E : sE p_ l_ e_ rmX10_append s_ m_ args_ below_ meth_ c_ cX10_append 7 wsX10_append RX10 "append" (some .int) G b_ M N := E
  have S := E.1
  have hx_ := S.1
  have hb_ := S.2.1
  have hK := E.2.2.2.2.1
  have hV := E.2.2.2.2.2.2
  have hl : lv_has ls 7 [(0, .ref c), (1, .int (sI v1)), (2, .int (sI v2)), (3, .int (sI v3)), (4, .int (sI v4)), (5, .int (sI v5))] := hl
  have inX10_ : ∀ w ∈ wsX100, w ∈ wsX10_append := fun _ h => List.mem_cons_of_mem _ (List.mem_append_left _ (List.mem_append_left _ (List.mem_append_right _ h)))
  have inX9_ : ∀ w ∈ wsX90, w ∈ wsX10_append := fun _ h => List.mem_cons_of_mem _ (List.mem_append_left _ (List.mem_append_right _ h))
  have hbN : b_ ≤ N := by have h1 := hV.1.1; have h2 := hV.2.2; omega
  have b1 := bn_r v1
  have b2 := bn_r v2
  have b3 := bn_r v3
  have b4 := bn_r v4
  have b5 := bn_r v5
  refine lv_iload_n hx_ hb_ dX10_append_0 rfl (lv_at hl 1 rfl) ?_
  refine sk_SP E hV (As := [.int (sI v1)]) (rest := []) (kX9_bytesIn l_ G b_ M N v1) (va_cwS 1 S.2.2.2.2 gX10_append_X9_bytesIn rfl rfl rfl (by decide +kernel) ⟨Nat.le_of_ble_eq_true rfl, Nat.le_of_ble_eq_true rfl⟩) rfl rfl hl.1 (Nat.le_of_ble_eq_true rfl) dX10_append_1 (c1 := 0) (s1 := 0) ⟨⟨rfl, rfl⟩, by decide, by decide⟩ (fun H locs hV => ?_)
  refine lv_iload_n hx_ hb_ dX10_append_4 rfl (lv_at hl 2 rfl) ?_
  refine sk_SP E hV (As := [.int (sI v2)]) (rest := [.int (sI (bn v1))]) (kX9_bytesIn l_ G b_ M N v2) (va_cwS 1 S.2.2.2.2 gX10_append_X9_bytesIn rfl rfl rfl (by decide +kernel) ⟨Nat.le_of_ble_eq_true rfl, Nat.le_of_ble_eq_true rfl⟩) rfl rfl hl.1 (Nat.le_of_ble_eq_true rfl) dX10_append_5 (c1 := 0) (s1 := 0) ⟨⟨rfl, rfl⟩, by decide, by decide⟩ (fun H locs hV => ?_)
  refine si_add S dX10_append_8 ?_
  refine lv_iload_n hx_ hb_ dX10_append_9 rfl (lv_at hl 3 rfl) ?_
  refine sk_SP E hV (As := [.int (sI v3)]) (rest := [.int (sI ((bn v1) + (bn v2)))]) (kX9_bytesIn l_ G b_ M N v3) (va_cwS 1 S.2.2.2.2 gX10_append_X9_bytesIn rfl rfl rfl (by decide +kernel) ⟨Nat.le_of_ble_eq_true rfl, Nat.le_of_ble_eq_true rfl⟩) rfl rfl hl.1 (Nat.le_of_ble_eq_true rfl) dX10_append_10 (c1 := 0) (s1 := 0) ⟨⟨rfl, rfl⟩, by decide, by decide⟩ (fun H locs hV => ?_)
  refine si_add S dX10_append_13 ?_
  refine lv_iload hx_ hb_ dX10_append_14 (lv_at hl 4 rfl) ?_
  refine sk_SP E hV (As := [.int (sI v4)]) (rest := [.int (sI (((bn v1) + (bn v2)) + (bn v3)))]) (kX9_bytesIn l_ G b_ M N v4) (va_cwS 1 S.2.2.2.2 gX10_append_X9_bytesIn rfl rfl rfl (by decide +kernel) ⟨Nat.le_of_ble_eq_true rfl, Nat.le_of_ble_eq_true rfl⟩) rfl rfl hl.1 (Nat.le_of_ble_eq_true rfl) dX10_append_16 (c1 := 0) (s1 := 0) ⟨⟨rfl, rfl⟩, by decide, by decide⟩ (fun H locs hV => ?_)
  refine si_add S dX10_append_19 ?_
  refine lv_iload hx_ hb_ dX10_append_20 (lv_at hl 5 rfl) ?_
  refine sk_SP E hV (As := [.int (sI v5)]) (rest := [.int (sI ((((bn v1) + (bn v2)) + (bn v3)) + (bn v4)))]) (kX9_bytesIn l_ G b_ M N v5) (va_cwS 1 S.2.2.2.2 gX10_append_X9_bytesIn rfl rfl rfl (by decide +kernel) ⟨Nat.le_of_ble_eq_true rfl, Nat.le_of_ble_eq_true rfl⟩) rfl rfl hl.1 (Nat.le_of_ble_eq_true rfl) dX10_append_22 (c1 := 0) (s1 := 0) ⟨⟨rfl, rfl⟩, by decide, by decide⟩ (fun H locs hV => ?_)
  refine si_add S dX10_append_25 ?_
  refine lv_istore (lv' := [(6, .int (sI (((((bn v1) + (bn v2)) + (bn v3)) + (bn v4)) + (bn v5)))), (0, .ref c), (1, .int (sI v1)), (2, .int (sI v2)), (3, .int (sI v3)), (4, .int (sI v4)), (5, .int (sI v5))]) hx_ hb_ dX10_append_26 hl (by decide) rfl (fun ls hl => ?_)
  refine lv_aload_n hx_ hb_ dX10_append_28 rfl (lv_at hl 1 rfl) ?_
  refine sc_get (ci := 8) (C := RX10) (T := TX10) (n := 11) S hK hV inX10_ hc0 rfl 5 (by decide) (S.2.2.2.2 _ (List.mem_of_getElem? (i := 3) rfl)) rfl rfl dX10_append_29 ?_
  refine sk_VP E hV (As := []) (rest := []) (kX9_length l_ G b_ M N (c + 32) tn te ht0) (cwV 0 S.2.2.2.2 gX10_append_X9_length rfl rfl rfl (by decide +kernel) ⟨Nat.le_of_ble_eq_true rfl, Nat.le_of_ble_eq_true rfl⟩) (ci := 7) ht0 rfl rfl rfl hl.1 (Nat.le_of_ble_eq_true rfl) dX10_append_32 (c1 := 0) (s1 := 0) ⟨⟨rfl, rfl⟩, by decide, by decide⟩ (fun H locs hV => ?_)
  refine lv_iload hx_ hb_ dX10_append_35 (lv_at hl 0 rfl) ?_
  refine si_add S dX10_append_37 ?_
  refine si_sipush S dX10_append_38 (by decide) ?_
  refine sb_le (tgt := 54) S dX10_append_41 (by decide) (by omega) (fun c1 => ?_) (fun c1 => ?_)
  · refine lv_aload_n hx_ hb_ dX10_append_54 rfl (lv_at hl 1 rfl) ?_
    refine sc_get (ci := 8) (C := RX10) (T := TX10) (n := 11) S hK hV inX10_ hc0 rfl 5 (by decide) (S.2.2.2.2 _ (List.mem_of_getElem? (i := 3) rfl)) rfl rfl dX10_append_55 ?_
    refine lv_iload_n hx_ hb_ dX10_append_58 rfl (lv_at hl 2 rfl) ?_
    refine sk_Vv E hV (As := [.int (sI v1)]) (rest := []) (kX9_putBytes l_ G b_ M N (c + 32) tn te t v1 ht0 ht1 (by omega)) (cwV 1 S.2.2.2.2 gX10_append_X9_putBytes rfl rfl rfl (by decide +kernel) ⟨Nat.le_of_ble_eq_true rfl, Nat.le_of_ble_eq_true rfl⟩) (ci := 7) ht0 rfl rfl rfl hl.1 (Nat.le_of_ble_eq_true rfl) dX10_append_59 (c1 := 0) (s1 := 0) ⟨⟨rfl, rfl⟩, by decide, by decide⟩ (fun M2 N3 H locs hp4 hV => ?_)
    obtain ⟨hN6, hc7, hc8, hf9⟩ := hp4
    rw [hN6] at hV
    refine lv_aload_n hx_ hb_ dX10_append_62 rfl (lv_at hl 1 rfl) ?_
    have hc10 : M2 c = some (xO c kn ch) := (hf9 c (by omega) (by omega)).trans hc0
    refine sc_get (ci := 8) (C := RX10) (T := TX10) (n := 11) S hK hV inX10_ hc10 rfl 5 (by decide) (S.2.2.2.2 _ (List.mem_of_getElem? (i := 3) rfl)) rfl rfl dX10_append_63 ?_
    refine lv_iload_n hx_ hb_ dX10_append_66 rfl (lv_at hl 3 rfl) ?_
    refine sk_Vv E hV (As := [.int (sI v2)]) (rest := []) (kX9_putBytes l_ G b_ M2 N (c + 32) (tn + bn v1) te (tpt v1 t tn 4) v2 hc7 hc8 (by omega)) (cwV 1 S.2.2.2.2 gX10_append_X9_putBytes rfl rfl rfl (by decide +kernel) ⟨Nat.le_of_ble_eq_true rfl, Nat.le_of_ble_eq_true rfl⟩) (ci := 7) hc7 rfl rfl rfl hl.1 (Nat.le_of_ble_eq_true rfl) dX10_append_67 (c1 := 0) (s1 := 0) ⟨⟨rfl, rfl⟩, by decide, by decide⟩ (fun M11 N12 H locs hp13 hV => ?_)
    obtain ⟨hN15, hc16, hc17, hf18⟩ := hp13
    rw [hN15] at hV
    refine lv_aload_n hx_ hb_ dX10_append_70 rfl (lv_at hl 1 rfl) ?_
    have hc19 : M11 c = some (xO c kn ch) := (hf18 c (by omega) (by omega)).trans hc10
    refine sc_get (ci := 8) (C := RX10) (T := TX10) (n := 11) S hK hV inX10_ hc19 rfl 5 (by decide) (S.2.2.2.2 _ (List.mem_of_getElem? (i := 3) rfl)) rfl rfl dX10_append_71 ?_
    refine lv_iload_n hx_ hb_ dX10_append_74 rfl (lv_at hl 4 rfl) ?_
    refine sk_Vv E hV (As := [.int (sI v3)]) (rest := []) (kX9_putBytes l_ G b_ M11 N (c + 32) ((tn + bn v1) + bn v2) te (tpt v2 (tpt v1 t tn 4) (tn + bn v1) 4) v3 hc16 hc17 (by omega)) (cwV 1 S.2.2.2.2 gX10_append_X9_putBytes rfl rfl rfl (by decide +kernel) ⟨Nat.le_of_ble_eq_true rfl, Nat.le_of_ble_eq_true rfl⟩) (ci := 7) hc16 rfl rfl rfl hl.1 (Nat.le_of_ble_eq_true rfl) dX10_append_75 (c1 := 0) (s1 := 0) ⟨⟨rfl, rfl⟩, by decide, by decide⟩ (fun M20 N21 H locs hp22 hV => ?_)
    obtain ⟨hN24, hc25, hc26, hf27⟩ := hp22
    rw [hN24] at hV
    refine lv_aload_n hx_ hb_ dX10_append_78 rfl (lv_at hl 1 rfl) ?_
    have hc28 : M20 c = some (xO c kn ch) := (hf27 c (by omega) (by omega)).trans hc19
    refine sc_get (ci := 8) (C := RX10) (T := TX10) (n := 11) S hK hV inX10_ hc28 rfl 5 (by decide) (S.2.2.2.2 _ (List.mem_of_getElem? (i := 3) rfl)) rfl rfl dX10_append_79 ?_
    refine lv_iload hx_ hb_ dX10_append_82 (lv_at hl 5 rfl) ?_
    refine sk_Vv E hV (As := [.int (sI v4)]) (rest := []) (kX9_putBytes l_ G b_ M20 N (c + 32) (((tn + bn v1) + bn v2) + bn v3) te (tpt v3 (tpt v2 (tpt v1 t tn 4) (tn + bn v1) 4) ((tn + bn v1) + bn v2) 4) v4 hc25 hc26 (by omega)) (cwV 1 S.2.2.2.2 gX10_append_X9_putBytes rfl rfl rfl (by decide +kernel) ⟨Nat.le_of_ble_eq_true rfl, Nat.le_of_ble_eq_true rfl⟩) (ci := 7) hc25 rfl rfl rfl hl.1 (Nat.le_of_ble_eq_true rfl) dX10_append_84 (c1 := 0) (s1 := 0) ⟨⟨rfl, rfl⟩, by decide, by decide⟩ (fun M29 N30 H locs hp31 hV => ?_)
    obtain ⟨hN33, hc34, hc35, hf36⟩ := hp31
    rw [hN33] at hV
    refine lv_aload_n hx_ hb_ dX10_append_87 rfl (lv_at hl 1 rfl) ?_
    have hc37 : M29 c = some (xO c kn ch) := (hf36 c (by omega) (by omega)).trans hc28
    refine sc_get (ci := 8) (C := RX10) (T := TX10) (n := 11) S hK hV inX10_ hc37 rfl 5 (by decide) (S.2.2.2.2 _ (List.mem_of_getElem? (i := 3) rfl)) rfl rfl dX10_append_88 ?_
    refine lv_iload hx_ hb_ dX10_append_91 (lv_at hl 6 rfl) ?_
    refine sk_Vv E hV (As := [.int (sI v5)]) (rest := []) (kX9_putBytes l_ G b_ M29 N (c + 32) ((((tn + bn v1) + bn v2) + bn v3) + bn v4) te (tpt v4 (tpt v3 (tpt v2 (tpt v1 t tn 4) (tn + bn v1) 4) ((tn + bn v1) + bn v2) 4) (((tn + bn v1) + bn v2) + bn v3) 4) v5 hc34 hc35 (by omega)) (cwV 1 S.2.2.2.2 gX10_append_X9_putBytes rfl rfl rfl (by decide +kernel) ⟨Nat.le_of_ble_eq_true rfl, Nat.le_of_ble_eq_true rfl⟩) (ci := 7) hc34 rfl rfl rfl hl.1 (Nat.le_of_ble_eq_true rfl) dX10_append_93 (c1 := 0) (s1 := 0) ⟨⟨rfl, rfl⟩, by decide, by decide⟩ (fun M38 N39 H locs hp40 hV => ?_)
    obtain ⟨hN42, hc43, hc44, hf45⟩ := hp40
    rw [hN42] at hV
    refine lv_aload_n hx_ hb_ dX10_append_96 rfl (lv_at hl 1 rfl) ?_
    have hc46 : M38 c = some (xO c kn ch) := (hf45 c (by omega) (by omega)).trans hc37
    refine sc_get (ci := 8) (C := RX10) (T := TX10) (n := 11) S hK hV inX10_ hc46 rfl 5 (by decide) (S.2.2.2.2 _ (List.mem_of_getElem? (i := 3) rfl)) rfl rfl dX10_append_97 ?_
    refine sk_VP E hV (As := []) (rest := []) (kX9_length l_ G b_ M38 N (c + 32) (((((tn + bn v1) + bn v2) + bn v3) + bn v4) + bn v5) te hc43) (cwV 0 S.2.2.2.2 gX10_append_X9_length rfl rfl rfl (by decide +kernel) ⟨Nat.le_of_ble_eq_true rfl, Nat.le_of_ble_eq_true rfl⟩) (ci := 7) hc43 rfl rfl rfl hl.1 (Nat.le_of_ble_eq_true rfl) dX10_append_100 (c1 := 0) (s1 := 0) ⟨⟨rfl, rfl⟩, by decide, by decide⟩ (fun H locs hV => ?_)
    exact xr_i E hQ dX10_append_103 ⟨Nat.le_of_ble_eq_true rfl, Nat.le_of_ble_eq_true rfl⟩ hV (⟨rfl, fun x q0 q1 => ((((hf45 x (by omega) (by omega)).trans (hf36 x (by omega) (by omega))).trans (hf27 x (by omega) (by omega))).trans (hf18 x (by omega) (by omega))).trans (hf9 x (by omega) (by omega)), ⟨(by unfold apB; omega), by unfold apB; omega, by rw [show tn + apB v1 v2 v3 v4 v5 = tn + bn v1 + bn v2 + bn v3 + bn v4 + bn v5 by unfold apB; omega]; exact hc43, hc44⟩⟩)
  · exact xt_S (own := RX10) (rest := []) E hF_ hxt_ hQ hlt (ik := 80) (is := 82) (ic := 84) (cls := "java/lang/IllegalStateException") (text := "the tape is too short") (by decide +kernel) xg_IS (List.mem_of_getElem? (i := 1) rfl) (List.mem_of_getElem? (i := 2) rfl) (fun _ h => List.mem_cons_of_mem _ (List.mem_append_right _ h)) (List.mem_of_getElem? (i := 0) rfl) hl.1 dX10_append_44 dX10_append_47 dX10_append_48 dX10_append_50 dX10_append_53 ⟨Nat.le_of_ble_eq_true rfl, Nat.le_of_ble_eq_true rfl, Nat.le_of_ble_eq_true rfl, Nat.le_of_ble_eq_true rfl⟩ ⟨Nat.le_of_ble_eq_true rfl, Nat.le_of_ble_eq_true rfl⟩ hV (fun N9 h9 => ⟨by omega, fun x q0 q1 => rfl, ⟨(by unfold apB; omega), rfl, ht0, ht1⟩⟩)

abbrev rmX10_clearTape : Room := { frames := 2, cells := 0, slots := 0, locals := 60 }
set_option maxHeartbeats 4000000 in
set_option maxRecDepth 100000 in
theorem kX10_clearTape (l_ : Launch) (G : sG) (b_ : Nat) (M : sM) (N : Nat) (c : Nat) (kn ch : Int) (tn te : Int) (hc0 : M c = some (xO c kn ch)) (ht0 : M (c + 32) = some (sObj 7 [.ref (c + 33), .int (sI tn), .int (sI te)])) : cI l_ yX10_clearTape wsX10_clearTape rmX10_clearTape G b_ M N [.ref c] (fun z_ M1 N1 => z_ = tn ∧ N1 = N ∧ M1 (c + 32) = some (sObj 7 [.ref (c + 33), .int (sI 0), .int (sI te)]) ∧ (∀ x : Nat, ¬ (x = c + 32) → M1 x = M x)) := by
  refine sE.ofI (cc := cX10_clearTape) (nL := 2) (ret := (some .int)) (by decide) rfl (Nat.le_of_ble_eq_true rfl) ?_
  intro p_ e_ s_ m_ args_ below_ meth_ c_ ls Q hQ E hl
  have E : sE p_ l_ e_ rmX10_clearTape s_ m_ args_ below_ meth_ c_ cX10_clearTape 2 wsX10_clearTape RX10 "clearTape" (some .int) G b_ M N := E
  have S := E.1
  have hx_ := S.1
  have hb_ := S.2.1
  have hK := E.2.2.2.2.1
  have hV := E.2.2.2.2.2.2
  have hl : lv_has ls 2 [(0, .ref c)] := hl
  have inX10_ : ∀ w ∈ wsX100, w ∈ wsX10_clearTape := fun _ h => List.mem_cons_of_mem _ (List.mem_append_left _ (List.mem_append_right _ h))
  have inX9_ : ∀ w ∈ wsX90, w ∈ wsX10_clearTape := fun _ h => List.mem_cons_of_mem _ (List.mem_append_right _ h)
  refine lv_aload_n hx_ hb_ dX10_clearTape_0 rfl (lv_at hl 0 rfl) ?_
  refine sc_get (ci := 8) (C := RX10) (T := TX10) (n := 11) S hK hV inX10_ hc0 rfl 5 (by decide) (S.2.2.2.2 _ (List.mem_of_getElem? (i := 1) rfl)) rfl rfl dX10_clearTape_1 ?_
  refine sk_VP E hV (As := []) (rest := []) (kX9_length l_ G b_ M N (c + 32) tn te ht0) (cwV 0 S.2.2.2.2 gX10_clearTape_X9_length rfl rfl rfl (by decide +kernel) ⟨Nat.le_of_ble_eq_true rfl, Nat.le_of_ble_eq_true rfl⟩) (ci := 7) ht0 rfl rfl rfl hl.1 (Nat.le_of_ble_eq_true rfl) dX10_clearTape_4 (c1 := 0) (s1 := 0) ⟨⟨rfl, rfl⟩, by decide, by decide⟩ (fun H locs hV => ?_)
  refine lv_istore_n (lv' := [(1, .int (sI tn)), (0, .ref c)]) hx_ hb_ dX10_clearTape_7 rfl hl (by decide) rfl (fun ls hl => ?_)
  refine lv_aload_n hx_ hb_ dX10_clearTape_8 rfl (lv_at hl 1 rfl) ?_
  refine sc_get (ci := 8) (C := RX10) (T := TX10) (n := 11) S hK hV inX10_ hc0 rfl 5 (by decide) (S.2.2.2.2 _ (List.mem_of_getElem? (i := 1) rfl)) rfl rfl dX10_clearTape_9 ?_
  refine sk_Vv E hV (As := []) (rest := []) (kX9_empty l_ G b_ M N (c + 32) tn te ht0) (cwV 0 S.2.2.2.2 gX10_clearTape_X9_empty rfl rfl rfl (by decide +kernel) ⟨Nat.le_of_ble_eq_true rfl, Nat.le_of_ble_eq_true rfl⟩) (ci := 7) ht0 rfl rfl rfl hl.1 (Nat.le_of_ble_eq_true rfl) dX10_clearTape_12 (c1 := 0) (s1 := 0) ⟨⟨rfl, rfl⟩, by decide, by decide⟩ (fun M1 N2 H locs hp3 hV => ?_)
  obtain ⟨hN5, hc6, hf7⟩ := hp3
  rw [hN5] at hV
  refine lv_iload_n hx_ hb_ dX10_clearTape_15 rfl (lv_at hl 0 rfl) ?_
  exact sr_i E hQ dX10_clearTape_16 ⟨Nat.le_of_ble_eq_true rfl, Nat.le_of_ble_eq_true rfl⟩ hV (⟨rfl, rfl, hc6, fun x q0 => hf7 x (by omega)⟩)

abbrev rmX10_errorPosition : Room := { frames := 2, cells := 0, slots := 0, locals := 60 }
set_option maxHeartbeats 4000000 in
set_option maxRecDepth 100000 in
theorem kX10_errorPosition (l_ : Launch) (G : sG) (b_ : Nat) (M : sM) (N : Nat) (c : Nat) (kn ch : Int) (tn te : Int) (hc0 : M c = some (xO c kn ch)) (ht0 : M (c + 32) = some (sObj 7 [.ref (c + 33), .int (sI tn), .int (sI te)])) : cP l_ yX10_errorPosition wsX10_errorPosition rmX10_errorPosition G b_ M N [.ref c] te := by
  refine sE.ofI (cc := cX10_errorPosition) (nL := 1) (ret := (some .int)) (by decide) rfl (Nat.le_of_ble_eq_true rfl) ?_
  intro p_ e_ s_ m_ args_ below_ meth_ c_ ls Q hQ E hl
  have E : sE p_ l_ e_ rmX10_errorPosition s_ m_ args_ below_ meth_ c_ cX10_errorPosition 1 wsX10_errorPosition RX10 "errorPosition" (some .int) G b_ M N := E
  have S := E.1
  have hx_ := S.1
  have hb_ := S.2.1
  have hK := E.2.2.2.2.1
  have hV := E.2.2.2.2.2.2
  have hl : lv_has ls 1 [(0, .ref c)] := hl
  have inX10_ : ∀ w ∈ wsX100, w ∈ wsX10_errorPosition := fun _ h => List.mem_cons_of_mem _ (List.mem_append_left _ (List.mem_append_right _ h))
  have inX9_ : ∀ w ∈ wsX90, w ∈ wsX10_errorPosition := fun _ h => List.mem_cons_of_mem _ (List.mem_append_right _ h)
  refine lv_aload_n hx_ hb_ dX10_errorPosition_0 rfl (lv_at hl 0 rfl) ?_
  refine sc_get (ci := 8) (C := RX10) (T := TX10) (n := 11) S hK hV inX10_ hc0 rfl 5 (by decide) (S.2.2.2.2 _ (List.mem_of_getElem? (i := 1) rfl)) rfl rfl dX10_errorPosition_1 ?_
  refine sk_VP E hV (As := []) (rest := []) (kX9_error l_ G b_ M N (c + 32) tn te ht0) (cwV 0 S.2.2.2.2 gX10_errorPosition_X9_error rfl rfl rfl (by decide +kernel) ⟨Nat.le_of_ble_eq_true rfl, Nat.le_of_ble_eq_true rfl⟩) (ci := 7) ht0 rfl rfl rfl hl.1 (Nat.le_of_ble_eq_true rfl) dX10_errorPosition_4 (c1 := 0) (s1 := 0) ⟨⟨rfl, rfl⟩, by decide, by decide⟩ (fun H locs hV => ?_)
  exact sr_i E hQ dX10_errorPosition_7 ⟨Nat.le_of_ble_eq_true rfl, Nat.le_of_ble_eq_true rfl⟩ hV (⟨rfl, rfl, rfl⟩)

abbrev rmX10_stones : Room := { frames := 2, cells := 0, slots := 0, locals := 60 }
set_option maxHeartbeats 4000000 in
set_option maxRecDepth 100000 in
theorem kX10_stones (l_ : Launch) (G : sG) (b_ : Nat) (M : sM) (N : Nat) (c : Nat) (kn ch : Int) (f : sF) (hc0 : M c = some (xO c kn ch)) (hst : stC G M (c + 1) f) : cP l_ yX10_stones wsX10_stones rmX10_stones G b_ M N [.ref c] (f 568) := by
  refine sE.ofI (cc := cX10_stones) (nL := 1) (ret := (some .int)) (by decide) rfl (Nat.le_of_ble_eq_true rfl) ?_
  intro p_ e_ s_ m_ args_ below_ meth_ c_ ls Q hQ E hl
  have E : sE p_ l_ e_ rmX10_stones s_ m_ args_ below_ meth_ c_ cX10_stones 1 wsX10_stones RX10 "stones" (some .int) G b_ M N := E
  have S := E.1
  have hx_ := S.1
  have hb_ := S.2.1
  have hK := E.2.2.2.2.1
  have hV := E.2.2.2.2.2.2
  have hl : lv_has ls 1 [(0, .ref c)] := hl
  have inX10_ : ∀ w ∈ wsX100, w ∈ wsX10_stones := fun _ h => List.mem_cons_of_mem _ (List.mem_append_left _ (List.mem_append_left _ (List.mem_append_right _ h)))
  have inX6_ : ∀ w ∈ wsX60, w ∈ wsX10_stones := fun _ h => List.mem_cons_of_mem _ (List.mem_append_left _ (List.mem_append_right _ h))
  have inX8_ : ∀ w ∈ wsX80, w ∈ wsX10_stones := fun _ h => List.mem_cons_of_mem _ (List.mem_append_right _ h)
  refine lv_aload_n hx_ hb_ dX10_stones_0 rfl (lv_at hl 0 rfl) ?_
  refine sc_get (ci := 8) (C := RX10) (T := TX10) (n := 11) S hK hV inX10_ hc0 rfl 0 (by decide) (S.2.2.2.2 _ (List.mem_of_getElem? (i := 1) rfl)) rfl rfl dX10_stones_1 ?_
  refine sc_getN (ci := 4) (C := RX6) (T := TX6) (n := 8) S hK hV inX6_ (hst).1 rfl 0 (by decide) (E.2.2.2.2.2.1.1.2.1 _ (List.mem_of_getElem? (i := 3) rfl)) rfl rfl dX10_stones_4 ?_
  refine sk_VP E hV (As := []) (rest := []) (kTs l_ G b_ M N (c + 2) 7 (f 568) 70 (tvS f) ((hst).2.1)) (cwV 0 S.2.2.2.2 gX10_stones_X8_size rfl rfl rfl (by decide +kernel) ⟨Nat.le_of_ble_eq_true rfl, Nat.le_of_ble_eq_true rfl⟩) (ci := 6) ((hst).2.1).1 rfl rfl rfl hl.1 (Nat.le_of_ble_eq_true rfl) dX10_stones_7 (c1 := 0) (s1 := 0) ⟨⟨rfl, rfl⟩, by decide, by decide⟩ (fun H locs hV => ?_)
  exact sr_i E hQ dX10_stones_10 ⟨Nat.le_of_ble_eq_true rfl, Nat.le_of_ble_eq_true rfl⟩ hV (⟨rfl, rfl, rfl⟩)

abbrev rmX10_time : Room := { frames := 1, cells := 0, slots := 0, locals := 40 }
set_option maxHeartbeats 4000000 in
set_option maxRecDepth 100000 in
theorem kX10_time (l_ : Launch) (G : sG) (b_ : Nat) (M : sM) (N : Nat) (c : Nat) (kn ch : Int) (f : sF) (hc0 : M c = some (xO c kn ch)) (hst : stC G M (c + 1) f) : cP l_ yX10_time wsX10_time rmX10_time G b_ M N [.ref c] (f 571) := by
  refine sE.ofI (cc := cX10_time) (nL := 1) (ret := (some .int)) (by decide) rfl (Nat.le_of_ble_eq_true rfl) ?_
  intro p_ e_ s_ m_ args_ below_ meth_ c_ ls Q hQ E hl
  have E : sE p_ l_ e_ rmX10_time s_ m_ args_ below_ meth_ c_ cX10_time 1 wsX10_time RX10 "time" (some .int) G b_ M N := E
  have S := E.1
  have hx_ := S.1
  have hb_ := S.2.1
  have hK := E.2.2.2.2.1
  have hV := E.2.2.2.2.2.2
  have hl : lv_has ls 1 [(0, .ref c)] := hl
  have inX10_ : ∀ w ∈ wsX100, w ∈ wsX10_time := fun _ h => List.mem_cons_of_mem _ (List.mem_append_left _ (List.mem_append_right _ h))
  have inX6_ : ∀ w ∈ wsX60, w ∈ wsX10_time := fun _ h => List.mem_cons_of_mem _ (List.mem_append_right _ h)
  refine lv_aload_n hx_ hb_ dX10_time_0 rfl (lv_at hl 0 rfl) ?_
  refine sc_get (ci := 8) (C := RX10) (T := TX10) (n := 11) S hK hV inX10_ hc0 rfl 0 (by decide) (S.2.2.2.2 _ (List.mem_of_getElem? (i := 1) rfl)) rfl rfl dX10_time_1 ?_
  refine sc_getN (ci := 4) (C := RX6) (T := TX6) (n := 8) S hK hV inX6_ (hst).1 rfl 7 (by decide) (E.2.2.2.2.2.1.1.2.1 _ (List.mem_of_getElem? (i := 14) rfl)) rfl rfl dX10_time_4 ?_
  exact sr_i E hQ dX10_time_7 ⟨Nat.le_of_ble_eq_true rfl, Nat.le_of_ble_eq_true rfl⟩ hV (⟨rfl, rfl, rfl⟩)

abbrev rmX10_stoneOf : Room := { frames := 7, cells := 8, slots := 50, locals := 122 }
set_option maxHeartbeats 4000000 in
set_option maxRecDepth 100000 in
theorem kX10_stoneOf (l_ : Launch) (G : sG) (b_ : Nat) (M : sM) (N : Nat) (c : Nat) (kn ch : Int) (f : sF) (s j : Int) (hc0 : M c = some (xO c kn ch)) (hst : stC G M (c + 1) f) (hlt : l_.stackTraces = false) (hok : sOk f) (hr : sR s ∧ sR j) : xcI l_ yX10_stoneOf wsX10_stoneOf rmX10_stoneOf G b_ M N [.ref c, .int (sI s), .int (sI j)] (fun z_ M1 N1 => N1 = N ∧ (∀ x : Nat, M1 x = M x) ∧ ((((0 ≤ s ∧ s < f 568) ∧ j = 5) ∧ z_ = isum (f 568) (plT f s)) ∨ (((0 ≤ s ∧ s < f 568) ∧ 0 ≤ j ∧ j ≤ 4) ∧ z_ = f (10 + 10 * j + s)))) (fun E_ M1 N1 => N ≤ N1 ∧ (∀ x : Nat, M1 x = M x) ∧ (((¬ (0 ≤ s ∧ s < f 568)) ∧ E_ = "java/lang/IndexOutOfBoundsException") ∨ (((0 ≤ s ∧ s < f 568) ∧ ¬ (0 ≤ j ∧ j ≤ 5)) ∧ E_ = "java/lang/IllegalArgumentException"))) := by
  refine xcE.ofI (cc := cX10_stoneOf) (nL := 3) (ret := (some .int)) (by decide) rfl (Nat.le_of_ble_eq_true rfl) ?_
  intro p_ e_ s_ m_ args_ below_ meth_ c_ ls Q hQ E hF_ hxt_ hl
  have E : sE p_ l_ e_ rmX10_stoneOf s_ m_ args_ below_ meth_ c_ cX10_stoneOf 3 wsX10_stoneOf RX10 "stoneOf" (some .int) G b_ M N := E
  have S := E.1
  have hx_ := S.1
  have hb_ := S.2.1
  have hK := E.2.2.2.2.1
  have hV := E.2.2.2.2.2.2
  have hl : lv_has ls 3 [(0, .ref c), (1, .int (sI s)), (2, .int (sI j))] := hl
  have inX10_ : ∀ w ∈ wsX100, w ∈ wsX10_stoneOf := fun _ h => List.mem_cons_of_mem _ (List.mem_append_left _ (List.mem_append_left _ (List.mem_append_left _ (List.mem_append_left _ (List.mem_append_right _ h)))))
  have inX6_ : ∀ w ∈ wsX60, w ∈ wsX10_stoneOf := fun _ h => List.mem_cons_of_mem _ (List.mem_append_left _ (List.mem_append_left _ (List.mem_append_left _ (List.mem_append_right _ h))))
  have inX8_ : ∀ w ∈ wsX80, w ∈ wsX10_stoneOf := fun _ h => List.mem_cons_of_mem _ (List.mem_append_left _ (List.mem_append_left _ (List.mem_append_right _ h)))
  have hbN : b_ ≤ N := by have h1 := hV.1.1; have h2 := hV.2.2; omega
  have kn0 := sOk_N hok
  refine lv_aload_n hx_ hb_ dX10_stoneOf_0 rfl (lv_at hl 0 rfl) ?_
  refine lv_iload_n hx_ hb_ dX10_stoneOf_1 rfl (lv_at hl 1 rfl) ?_
  refine xk_Vv E hF_ hxt_ hQ hV (As := [.int (sI s)]) (rest := []) (kX10_needStone l_ G b_ M N c kn ch f s hc0 hst (by omega) (by omega) (by omega)) (cwV 1 S.2.2.2.2 gX10_stoneOf_X10_needStone rfl rfl rfl (by decide +kernel) ⟨Nat.le_of_ble_eq_true rfl, Nat.le_of_ble_eq_true rfl⟩) (ci := 8) hc0 rfl rfl rfl hl.1 (Nat.le_of_ble_eq_true rfl) dX10_stoneOf_2 (c1 := 1) (s1 := 6) ⟨⟨rfl, rfl⟩, by decide, by decide⟩ ⟨Nat.le_of_ble_eq_true rfl, Nat.le_of_ble_eq_true rfl⟩ ?_ (fun M1 N2 H locs hp3 hV => ?_)
  · rintro E9 M9 N9 ⟨hN5, hf6, hq7⟩
    rcases hq7 with ⟨c8, ee9⟩
    · exact ⟨by omega, fun x  => hf6 x , Or.inl ⟨(by first | exact c8 | omega), ee9⟩⟩
  obtain ⟨hN10, hf11, hq12⟩ := hp3
  rw [hN10] at hV
  rcases hq12 with c13
  · refine lv_iload_n hx_ hb_ dX10_stoneOf_5 rfl (lv_at hl 2 rfl) ?_
    refine si_const S dX10_stoneOf_6 ?_
    refine si_const S dX10_stoneOf_7 ?_
    refine xk_Sv E hF_ hxt_ hQ hV (As := [.int (sI j), .int (sI 0), .int (sI 5)]) (rest := []) (kX10_needRange l_ G b_ M1 N j 0 5 (by omega) (by omega)) (va_cwS 3 S.2.2.2.2 gX10_stoneOf_X10_needRange rfl rfl rfl (by decide +kernel) ⟨Nat.le_of_ble_eq_true rfl, Nat.le_of_ble_eq_true rfl⟩) rfl rfl hl.1 (Nat.le_of_ble_eq_true rfl) dX10_stoneOf_8 (c1 := 2) (s1 := 12) ⟨⟨rfl, rfl⟩, by decide, by decide⟩ ⟨Nat.le_of_ble_eq_true rfl, Nat.le_of_ble_eq_true rfl⟩ ?_ (fun M14 N15 H locs hp16 hV => ?_)
    · rintro E9 M9 N9 ⟨hN18, hf19, hq20⟩
      rcases hq20 with ⟨c21, ee22⟩
      · exact ⟨by omega, fun x  => (hf19 x ).trans (hf11 x ), Or.inr (⟨(by first | exact c21 | omega), ee22⟩)⟩
    obtain ⟨hN23, hf24, hq25⟩ := hp16
    rw [hN23] at hV
    rcases hq25 with c26
    · refine lv_iload_n hx_ hb_ dX10_stoneOf_11 rfl (lv_at hl 2 rfl) ?_
      refine si_const S dX10_stoneOf_12 ?_
      refine sb_ne (tgt := 25) S dX10_stoneOf_13 (by decide) (by omega) (fun c27 => ?_) (fun c27 => ?_)
      · refine lv_aload_n hx_ hb_ dX10_stoneOf_25 rfl (lv_at hl 0 rfl) ?_
        have hc28 : M14 c = some (xO c kn ch) := ((hf24 c ).trans (hf11 c )).trans hc0
        refine sc_get (ci := 8) (C := RX10) (T := TX10) (n := 11) S hK hV inX10_ hc28 rfl 0 (by decide) (S.2.2.2.2 _ (List.mem_of_getElem? (i := 1) rfl)) rfl rfl dX10_stoneOf_26 ?_
        have hc29 : stC G M14 (c + 1) f := hst.fr (fun x q8 q9 => (hf24 x ).trans (hf11 x ))
        refine sc_getN (ci := 4) (C := RX6) (T := TX6) (n := 8) S hK hV inX6_ (hc29).1 rfl 0 (by decide) (E.2.2.2.2.2.1.1.2.1 _ (List.mem_of_getElem? (i := 3) rfl)) rfl rfl dX10_stoneOf_29 ?_
        refine lv_iload_n hx_ hb_ dX10_stoneOf_32 rfl (lv_at hl 1 rfl) ?_
        refine lv_iload_n hx_ hb_ dX10_stoneOf_33 rfl (lv_at hl 2 rfl) ?_
        refine si_const S dX10_stoneOf_34 ?_
        refine sb_ne (tgt := 42) S dX10_stoneOf_35 (by decide) (by omega) (fun c30 => ?_) (fun c30 => ?_)
        · refine lv_iload_n hx_ hb_ dX10_stoneOf_42 rfl (lv_at hl 2 rfl) ?_
          refine sk_VP E hV (As := [.int (sI s), .int (sI j)]) (rest := []) (kTg l_ G b_ M14 N (c + 2) 7 (f 568) 70 (tvS f) s j (f (10 + 10 * j + s)) ((hc29).2.1) (by omega) (by omega) (tvS_v f s j (by omega))) (cwV 2 S.2.2.2.2 gX10_stoneOf_X8_get rfl rfl rfl (by decide +kernel) ⟨Nat.le_of_ble_eq_true rfl, Nat.le_of_ble_eq_true rfl⟩) (ci := 6) ((hc29).2.1).1 rfl rfl rfl hl.1 (Nat.le_of_ble_eq_true rfl) dX10_stoneOf_43 (c1 := 2) (s1 := 12) ⟨⟨rfl, rfl⟩, by decide, by decide⟩ (fun H locs hV => ?_)
          have kn31 := okS_v hok j s (by omega) (by omega) (by omega)
          exact xr_i E hQ dX10_stoneOf_46 ⟨Nat.le_of_ble_eq_true rfl, Nat.le_of_ble_eq_true rfl⟩ hV (⟨rfl, fun x  => (hf24 x ).trans (hf11 x ), Or.inr (⟨(by omega), rfl⟩)⟩)
        · refine si_const S dX10_stoneOf_38 ?_
          refine lv_goto (tgt := 43) hx_ hb_ dX10_stoneOf_39 (by decide) ?_
          refine sk_VP E hV (As := [.int (sI s), .int (sI 5)]) (rest := []) (kTg l_ G b_ M14 N (c + 2) 7 (f 568) 70 (tvS f) s 5 (f (50 + s)) ((hc29).2.1) (by omega) (by omega) (tvS_5 f s)) (cwV 2 S.2.2.2.2 gX10_stoneOf_X8_get rfl rfl rfl (by decide +kernel) ⟨Nat.le_of_ble_eq_true rfl, Nat.le_of_ble_eq_true rfl⟩) (ci := 6) ((hc29).2.1).1 rfl rfl rfl hl.1 (Nat.le_of_ble_eq_true rfl) dX10_stoneOf_43 (c1 := 2) (s1 := 12) ⟨⟨rfl, rfl⟩, by decide, by decide⟩ (fun H locs hV => ?_)
          have kn32 : -1 ≤ f (50 + s) ∧ f (50 + s) ≤ 3 := (sOk_S hok s (by omega) (by omega)).2.2.2.2.2.1
          exact xr_i E hQ dX10_stoneOf_46 ⟨Nat.le_of_ble_eq_true rfl, Nat.le_of_ble_eq_true rfl⟩ hV (⟨rfl, fun x  => (hf24 x ).trans (hf11 x ), Or.inr (⟨(by omega), by rw [show j = 4 by omega]; rfl⟩)⟩)
      · refine lv_aload_n hx_ hb_ dX10_stoneOf_16 rfl (lv_at hl 0 rfl) ?_
        have hc33 : M14 c = some (xO c kn ch) := ((hf24 c ).trans (hf11 c )).trans hc0
        refine sc_get (ci := 8) (C := RX10) (T := TX10) (n := 11) S hK hV inX10_ hc33 rfl 0 (by decide) (S.2.2.2.2 _ (List.mem_of_getElem? (i := 1) rfl)) rfl rfl dX10_stoneOf_17 ?_
        refine lv_iload_n hx_ hb_ dX10_stoneOf_20 rfl (lv_at hl 1 rfl) ?_
        have hc34 : stC G M14 (c + 1) f := hst.fr (fun x q8 q9 => (hf24 x ).trans (hf11 x ))
        refine sk_VP E hV (As := [.int (sI s)]) (rest := []) (kX6_placeOf l_ G b_ M14 N (c + 1) f s hc34 (by omega) (by omega)) (cwV 1 S.2.2.2.2 gX10_stoneOf_X6_placeOf rfl rfl rfl (by decide +kernel) ⟨Nat.le_of_ble_eq_true rfl, Nat.le_of_ble_eq_true rfl⟩) (ci := 4) (hc34).1 rfl rfl rfl hl.1 (Nat.le_of_ble_eq_true rfl) dX10_stoneOf_21 (c1 := 2) (s1 := 12) ⟨⟨rfl, rfl⟩, by decide, by decide⟩ (fun H locs hV => ?_)
        exact xr_i E hQ dX10_stoneOf_24 ⟨Nat.le_of_ble_eq_true rfl, Nat.le_of_ble_eq_true rfl⟩ hV (⟨rfl, fun x  => (hf24 x ).trans (hf11 x ), Or.inl ⟨(by omega), rfl⟩⟩)

abbrev rmX10_lies : Room := { frames := 7, cells := 8, slots := 50, locals := 122 }
set_option maxHeartbeats 4000000 in
set_option maxRecDepth 100000 in
theorem kX10_lies (l_ : Launch) (G : sG) (b_ : Nat) (M : sM) (N : Nat) (c : Nat) (kn ch : Int) (f : sF) (d j : Int) (hc0 : M c = some (xO c kn ch)) (hst : stC G M (c + 1) f) (hlt : l_.stackTraces = false) (hok : sOk f) (hr : sR d ∧ sR j) : xcI l_ yX10_lies wsX10_lies rmX10_lies G b_ M N [.ref c, .int (sI d), .int (sI j)] (fun z_ M1 N1 => N1 = N ∧ (∀ x : Nat, M1 x = M x) ∧ (((((0 ≤ d ∧ d ≤ 3) ∧ (0 ≤ j ∧ j ≤ 2))) ∧ z_ = isum (f 568) (lyT f d j)))) (fun E_ M1 N1 => N ≤ N1 ∧ (∀ x : Nat, M1 x = M x) ∧ (((¬ ((0 ≤ d ∧ d ≤ 3) ∧ (0 ≤ j ∧ j ≤ 2))) ∧ E_ = "java/lang/IllegalArgumentException"))) := by
  refine xcE.ofI (cc := cX10_lies) (nL := 3) (ret := (some .int)) (by decide) rfl (Nat.le_of_ble_eq_true rfl) ?_
  intro p_ e_ s_ m_ args_ below_ meth_ c_ ls Q hQ E hF_ hxt_ hl
  have E : sE p_ l_ e_ rmX10_lies s_ m_ args_ below_ meth_ c_ cX10_lies 3 wsX10_lies RX10 "lies" (some .int) G b_ M N := E
  have S := E.1
  have hx_ := S.1
  have hb_ := S.2.1
  have hK := E.2.2.2.2.1
  have hV := E.2.2.2.2.2.2
  have hl : lv_has ls 3 [(0, .ref c), (1, .int (sI d)), (2, .int (sI j))] := hl
  have inX10_ : ∀ w ∈ wsX100, w ∈ wsX10_lies := fun _ h => List.mem_cons_of_mem _ (List.mem_append_left _ (List.mem_append_left _ (List.mem_append_left _ (List.mem_append_right _ h))))
  have inX6_ : ∀ w ∈ wsX60, w ∈ wsX10_lies := fun _ h => List.mem_cons_of_mem _ (List.mem_append_left _ (List.mem_append_left _ (List.mem_append_right _ h)))
  have inX8_ : ∀ w ∈ wsX80, w ∈ wsX10_lies := fun _ h => List.mem_cons_of_mem _ (List.mem_append_left _ (List.mem_append_right _ h))
  have hbN : b_ ≤ N := by have h1 := hV.1.1; have h2 := hV.2.2; omega
  have kn0 := sOk_N hok
  refine lv_iload_n hx_ hb_ dX10_lies_0 rfl (lv_at hl 1 rfl) ?_
  refine si_const S dX10_lies_1 ?_
  refine si_const S dX10_lies_2 ?_
  refine xk_Sv E hF_ hxt_ hQ hV (As := [.int (sI d), .int (sI 0), .int (sI 3)]) (rest := []) (kX10_needRange l_ G b_ M N d 0 3 (by omega) (by omega)) (va_cwS 3 S.2.2.2.2 gX10_lies_X10_needRange rfl rfl rfl (by decide +kernel) ⟨Nat.le_of_ble_eq_true rfl, Nat.le_of_ble_eq_true rfl⟩) rfl rfl hl.1 (Nat.le_of_ble_eq_true rfl) dX10_lies_3 (c1 := 1) (s1 := 6) ⟨⟨rfl, rfl⟩, by decide, by decide⟩ ⟨Nat.le_of_ble_eq_true rfl, Nat.le_of_ble_eq_true rfl⟩ ?_ (fun M1 N2 H locs hp3 hV => ?_)
  · rintro E9 M9 N9 ⟨hN5, hf6, hq7⟩
    rcases hq7 with ⟨c8, ee9⟩
    · exact ⟨by omega, fun x  => hf6 x , ⟨(by first | exact c8 | omega), ee9⟩⟩
  obtain ⟨hN10, hf11, hq12⟩ := hp3
  rw [hN10] at hV
  rcases hq12 with c13
  · refine lv_iload_n hx_ hb_ dX10_lies_6 rfl (lv_at hl 2 rfl) ?_
    refine si_const S dX10_lies_7 ?_
    refine si_const S dX10_lies_8 ?_
    refine xk_Sv E hF_ hxt_ hQ hV (As := [.int (sI j), .int (sI 0), .int (sI 2)]) (rest := []) (kX10_needRange l_ G b_ M1 N j 0 2 (by omega) (by omega)) (va_cwS 3 S.2.2.2.2 gX10_lies_X10_needRange rfl rfl rfl (by decide +kernel) ⟨Nat.le_of_ble_eq_true rfl, Nat.le_of_ble_eq_true rfl⟩) rfl rfl hl.1 (Nat.le_of_ble_eq_true rfl) dX10_lies_9 (c1 := 2) (s1 := 12) ⟨⟨rfl, rfl⟩, by decide, by decide⟩ ⟨Nat.le_of_ble_eq_true rfl, Nat.le_of_ble_eq_true rfl⟩ ?_ (fun M14 N15 H locs hp16 hV => ?_)
    · rintro E9 M9 N9 ⟨hN18, hf19, hq20⟩
      rcases hq20 with ⟨c21, ee22⟩
      · exact ⟨by omega, fun x  => (hf19 x ).trans (hf11 x ), ⟨(by first | exact c21 | omega), ee22⟩⟩
    obtain ⟨hN23, hf24, hq25⟩ := hp16
    rw [hN23] at hV
    rcases hq25 with c26
    · refine lv_iload_n hx_ hb_ dX10_lies_12 rfl (lv_at hl 2 rfl) ?_
      refine sz_ne (tgt := 25) S dX10_lies_13 (by decide) (by omega) (fun c27 => ?_) (fun c27 => ?_)
      · refine lv_aload_n hx_ hb_ dX10_lies_25 rfl (lv_at hl 0 rfl) ?_
        have hc28 : M14 c = some (xO c kn ch) := ((hf24 c ).trans (hf11 c )).trans hc0
        refine sc_get (ci := 8) (C := RX10) (T := TX10) (n := 11) S hK hV inX10_ hc28 rfl 0 (by decide) (S.2.2.2.2 _ (List.mem_of_getElem? (i := 1) rfl)) rfl rfl dX10_lies_26 ?_
        refine lv_iload_n hx_ hb_ dX10_lies_29 rfl (lv_at hl 1 rfl) ?_
        refine lv_iload_n hx_ hb_ dX10_lies_30 rfl (lv_at hl 2 rfl) ?_
        refine si_const S dX10_lies_31 ?_
        refine sb_ne (tgt := 39) S dX10_lies_32 (by decide) (by omega) (fun c29 => ?_) (fun c29 => ?_)
        · refine si_const S dX10_lies_39 ?_
          have hc30 : stC G M14 (c + 1) f := hst.fr (fun x q8 q9 => (hf24 x ).trans (hf11 x ))
          refine sk_VP E hV (As := [.int (sI d), .int (sI 2)]) (rest := []) (kX6_sumIn l_ G b_ M14 N (c + 1) f d 2 hc30 (by omega) (by omega) (by omega)) (cwV 2 S.2.2.2.2 gX10_lies_X6_sumIn rfl rfl rfl (by decide +kernel) ⟨Nat.le_of_ble_eq_true rfl, Nat.le_of_ble_eq_true rfl⟩) (ci := 4) (hc30).1 rfl rfl rfl hl.1 (Nat.le_of_ble_eq_true rfl) dX10_lies_40 (c1 := 2) (s1 := 12) ⟨⟨rfl, rfl⟩, by decide, by decide⟩ (fun H locs hV => ?_)
          exact xr_i E hQ dX10_lies_43 ⟨Nat.le_of_ble_eq_true rfl, Nat.le_of_ble_eq_true rfl⟩ hV (⟨rfl, fun x  => (hf24 x ).trans (hf11 x ), ⟨(by omega), by rw [show j = 2 by omega]⟩⟩)
        · refine si_const S dX10_lies_35 ?_
          refine lv_goto (tgt := 40) hx_ hb_ dX10_lies_36 (by decide) ?_
          have hc31 : stC G M14 (c + 1) f := hst.fr (fun x q8 q9 => (hf24 x ).trans (hf11 x ))
          refine sk_VP E hV (As := [.int (sI d), .int (sI 1)]) (rest := []) (kX6_sumIn l_ G b_ M14 N (c + 1) f d 1 hc31 (by omega) (by omega) (by omega)) (cwV 2 S.2.2.2.2 gX10_lies_X6_sumIn rfl rfl rfl (by decide +kernel) ⟨Nat.le_of_ble_eq_true rfl, Nat.le_of_ble_eq_true rfl⟩) (ci := 4) (hc31).1 rfl rfl rfl hl.1 (Nat.le_of_ble_eq_true rfl) dX10_lies_40 (c1 := 2) (s1 := 12) ⟨⟨rfl, rfl⟩, by decide, by decide⟩ (fun H locs hV => ?_)
          exact xr_i E hQ dX10_lies_43 ⟨Nat.le_of_ble_eq_true rfl, Nat.le_of_ble_eq_true rfl⟩ hV (⟨rfl, fun x  => (hf24 x ).trans (hf11 x ), ⟨(by omega), by rw [show j = 1 by omega]⟩⟩)
      · refine lv_aload_n hx_ hb_ dX10_lies_16 rfl (lv_at hl 0 rfl) ?_
        have hc32 : M14 c = some (xO c kn ch) := ((hf24 c ).trans (hf11 c )).trans hc0
        refine sc_get (ci := 8) (C := RX10) (T := TX10) (n := 11) S hK hV inX10_ hc32 rfl 0 (by decide) (S.2.2.2.2 _ (List.mem_of_getElem? (i := 1) rfl)) rfl rfl dX10_lies_17 ?_
        refine lv_iload_n hx_ hb_ dX10_lies_20 rfl (lv_at hl 1 rfl) ?_
        have hc33 : stC G M14 (c + 1) f := hst.fr (fun x q8 q9 => (hf24 x ).trans (hf11 x ))
        refine sk_VP E hV (As := [.int (sI d)]) (rest := []) (kX6_countIn l_ G b_ M14 N (c + 1) f d hc33 (by omega) (by omega)) (cwV 1 S.2.2.2.2 gX10_lies_X6_countIn rfl rfl rfl (by decide +kernel) ⟨Nat.le_of_ble_eq_true rfl, Nat.le_of_ble_eq_true rfl⟩) (ci := 4) (hc33).1 rfl rfl rfl hl.1 (Nat.le_of_ble_eq_true rfl) dX10_lies_21 (c1 := 2) (s1 := 12) ⟨⟨rfl, rfl⟩, by decide, by decide⟩ (fun H locs hV => ?_)
        exact xr_i E hQ dX10_lies_24 ⟨Nat.le_of_ble_eq_true rfl, Nat.le_of_ble_eq_true rfl⟩ hV (⟨rfl, fun x  => (hf24 x ).trans (hf11 x ), ⟨(by omega), by rw [show j = 0 by omega]⟩⟩)

abbrev rmX10_light : Room := { frames := 7, cells := 8, slots := 50, locals := 130 }
set_option maxHeartbeats 4000000 in
set_option maxRecDepth 100000 in
theorem kX10_light (l_ : Launch) (G : sG) (b_ : Nat) (M : sM) (N : Nat) (c : Nat) (kn ch : Int) (f : sF) (s y : Int) (hc0 : M c = some (xO c kn ch)) (hst : stC G M (c + 1) f) (hlt : l_.stackTraces = false) (hok : sOk f) (hr : sR s ∧ sR y) : xcI l_ yX10_light wsX10_light rmX10_light G b_ M N [.ref c, .int (sI s), .int (sI y)] (fun z_ M1 N1 => N1 = N ∧ (∀ x : Nat, M1 x = M x) ∧ ((((0 ≤ s ∧ s < f 568) ∧ 1900 ≤ y ∧ y ≤ 2199) ∧ z_ = liI f s y))) (fun E_ M1 N1 => N ≤ N1 ∧ (∀ x : Nat, M1 x = M x) ∧ (((¬ (0 ≤ s ∧ s < f 568)) ∧ E_ = "java/lang/IndexOutOfBoundsException") ∨ (((0 ≤ s ∧ s < f 568) ∧ ¬ (1900 ≤ y ∧ y ≤ 2199)) ∧ E_ = "java/lang/IllegalArgumentException"))) := by
  refine xcE.ofI (cc := cX10_light) (nL := 3) (ret := (some .int)) (by decide) rfl (Nat.le_of_ble_eq_true rfl) ?_
  intro p_ e_ s_ m_ args_ below_ meth_ c_ ls Q hQ E hF_ hxt_ hl
  have E : sE p_ l_ e_ rmX10_light s_ m_ args_ below_ meth_ c_ cX10_light 3 wsX10_light RX10 "light" (some .int) G b_ M N := E
  have S := E.1
  have hx_ := S.1
  have hb_ := S.2.1
  have hK := E.2.2.2.2.1
  have hV := E.2.2.2.2.2.2
  have hl : lv_has ls 3 [(0, .ref c), (1, .int (sI s)), (2, .int (sI y))] := hl
  have inX10_ : ∀ w ∈ wsX100, w ∈ wsX10_light := fun _ h => List.mem_cons_of_mem _ (List.mem_append_left _ (List.mem_append_left _ (List.mem_append_left _ (List.mem_append_left _ (List.mem_append_right _ h)))))
  have inX6_ : ∀ w ∈ wsX60, w ∈ wsX10_light := fun _ h => List.mem_cons_of_mem _ (List.mem_append_left _ (List.mem_append_left _ (List.mem_append_left _ (List.mem_append_right _ h))))
  have inX8_ : ∀ w ∈ wsX80, w ∈ wsX10_light := fun _ h => List.mem_cons_of_mem _ (List.mem_append_left _ (List.mem_append_left _ (List.mem_append_right _ h)))
  have hbN : b_ ≤ N := by have h1 := hV.1.1; have h2 := hV.2.2; omega
  have kn0 := sOk_N hok
  refine lv_aload_n hx_ hb_ dX10_light_0 rfl (lv_at hl 0 rfl) ?_
  refine lv_iload_n hx_ hb_ dX10_light_1 rfl (lv_at hl 1 rfl) ?_
  refine xk_Vv E hF_ hxt_ hQ hV (As := [.int (sI s)]) (rest := []) (kX10_needStone l_ G b_ M N c kn ch f s hc0 hst (by omega) (by omega) (by omega)) (cwV 1 S.2.2.2.2 gX10_light_X10_needStone rfl rfl rfl (by decide +kernel) ⟨Nat.le_of_ble_eq_true rfl, Nat.le_of_ble_eq_true rfl⟩) (ci := 8) hc0 rfl rfl rfl hl.1 (Nat.le_of_ble_eq_true rfl) dX10_light_2 (c1 := 1) (s1 := 6) ⟨⟨rfl, rfl⟩, by decide, by decide⟩ ⟨Nat.le_of_ble_eq_true rfl, Nat.le_of_ble_eq_true rfl⟩ ?_ (fun M1 N2 H locs hp3 hV => ?_)
  · rintro E9 M9 N9 ⟨hN5, hf6, hq7⟩
    rcases hq7 with ⟨c8, ee9⟩
    · exact ⟨by omega, fun x  => hf6 x , Or.inl ⟨(by first | exact c8 | omega), ee9⟩⟩
  obtain ⟨hN10, hf11, hq12⟩ := hp3
  rw [hN10] at hV
  rcases hq12 with c13
  · refine lv_iload_n hx_ hb_ dX10_light_5 rfl (lv_at hl 2 rfl) ?_
    refine si_sipush S dX10_light_6 (by decide) ?_
    refine si_sipush S dX10_light_9 (by decide) ?_
    refine xk_Sv E hF_ hxt_ hQ hV (As := [.int (sI y), .int (sI 1900), .int (sI 2199)]) (rest := []) (kX10_needRange l_ G b_ M1 N y 1900 2199 (by omega) (by omega)) (va_cwS 3 S.2.2.2.2 gX10_light_X10_needRange rfl rfl rfl (by decide +kernel) ⟨Nat.le_of_ble_eq_true rfl, Nat.le_of_ble_eq_true rfl⟩) rfl rfl hl.1 (Nat.le_of_ble_eq_true rfl) dX10_light_12 (c1 := 2) (s1 := 12) ⟨⟨rfl, rfl⟩, by decide, by decide⟩ ⟨Nat.le_of_ble_eq_true rfl, Nat.le_of_ble_eq_true rfl⟩ ?_ (fun M14 N15 H locs hp16 hV => ?_)
    · rintro E9 M9 N9 ⟨hN18, hf19, hq20⟩
      rcases hq20 with ⟨c21, ee22⟩
      · exact ⟨by omega, fun x  => (hf19 x ).trans (hf11 x ), Or.inr (⟨(by first | exact c21 | omega), ee22⟩)⟩
    obtain ⟨hN23, hf24, hq25⟩ := hp16
    rw [hN23] at hV
    rcases hq25 with c26
    · refine lv_aload_n hx_ hb_ dX10_light_15 rfl (lv_at hl 0 rfl) ?_
      have hc27 : M14 c = some (xO c kn ch) := ((hf24 c ).trans (hf11 c )).trans hc0
      refine sc_get (ci := 8) (C := RX10) (T := TX10) (n := 11) S hK hV inX10_ hc27 rfl 0 (by decide) (S.2.2.2.2 _ (List.mem_of_getElem? (i := 1) rfl)) rfl rfl dX10_light_16 ?_
      refine lv_iload_n hx_ hb_ dX10_light_19 rfl (lv_at hl 1 rfl) ?_
      refine lv_iload_n hx_ hb_ dX10_light_20 rfl (lv_at hl 2 rfl) ?_
      have hc28 : stC G M14 (c + 1) f := hst.fr (fun x q8 q9 => (hf24 x ).trans (hf11 x ))
      refine sk_SP E hV (As := [.ref (c + 1), .int (sI s), .int (sI y)]) (rest := []) (kX4_inYear l_ G b_ M14 N (c + 1) f s y hc28 (by omega) (by omega) (by omega)) (va_cwS 3 S.2.2.2.2 gX10_light_X4_inYear rfl rfl rfl (by decide +kernel) ⟨Nat.le_of_ble_eq_true rfl, Nat.le_of_ble_eq_true rfl⟩) rfl rfl hl.1 (Nat.le_of_ble_eq_true rfl) dX10_light_21 (c1 := 2) (s1 := 12) ⟨⟨rfl, rfl⟩, by decide, by decide⟩ (fun H locs hV => ?_)
      exact xr_i E hQ dX10_light_24 ⟨Nat.le_of_ble_eq_true rfl, Nat.le_of_ble_eq_true rfl⟩ hV (⟨rfl, fun x  => (hf24 x ).trans (hf11 x ), ⟨(by omega), rfl⟩⟩)

abbrev rmX10_mostDays : Room := { frames := 7, cells := 8, slots := 50, locals := 159 }
set_option maxHeartbeats 4000000 in
set_option maxRecDepth 100000 in
theorem kX10_mostDays (l_ : Launch) (G : sG) (b_ : Nat) (M : sM) (N : Nat) (c : Nat) (kn ch : Int) (f : sF) (s d l : Int) (hc0 : M c = some (xO c kn ch)) (hst : stC G M (c + 1) f) (hlt : l_.stackTraces = false) (hok : sOk f) (hli : sLi f) (hr : sR s ∧ sR d ∧ sR l) : xcI l_ yX10_mostDays wsX10_mostDays rmX10_mostDays G b_ M N [.ref c, .int (sI s), .int (sI d), .int (sI l)] (fun z_ M1 N1 => N1 = N ∧ (∀ x : Nat, M1 x = M x) ∧ ((((0 ≤ s ∧ s < f 568) ∧ isDt d ∧ 1 ≤ l ∧ l ≤ 1000) ∧ z_ = mdI f s (d / 10000) (dayI d + 3652) l))) (fun E_ M1 N1 => N ≤ N1 ∧ (∀ x : Nat, M1 x = M x) ∧ (((¬ (0 ≤ s ∧ s < f 568)) ∧ E_ = "java/lang/IndexOutOfBoundsException") ∨ (((0 ≤ s ∧ s < f 568) ∧ ¬ (isDt d ∧ 1 ≤ l ∧ l ≤ 1000)) ∧ E_ = "java/lang/IllegalArgumentException"))) := by
  refine xcE.ofI (cc := cX10_mostDays) (nL := 4) (ret := (some .int)) (by decide) rfl (Nat.le_of_ble_eq_true rfl) ?_
  intro p_ e_ s_ m_ args_ below_ meth_ c_ ls Q hQ E hF_ hxt_ hl
  have E : sE p_ l_ e_ rmX10_mostDays s_ m_ args_ below_ meth_ c_ cX10_mostDays 4 wsX10_mostDays RX10 "mostDays" (some .int) G b_ M N := E
  have S := E.1
  have hx_ := S.1
  have hb_ := S.2.1
  have hK := E.2.2.2.2.1
  have hV := E.2.2.2.2.2.2
  have hl : lv_has ls 4 [(0, .ref c), (1, .int (sI s)), (2, .int (sI d)), (3, .int (sI l))] := hl
  have inX10_ : ∀ w ∈ wsX100, w ∈ wsX10_mostDays := fun _ h => List.mem_cons_of_mem _ (List.mem_append_left _ (List.mem_append_left _ (List.mem_append_left _ (List.mem_append_left _ (List.mem_append_right _ h)))))
  have inX6_ : ∀ w ∈ wsX60, w ∈ wsX10_mostDays := fun _ h => List.mem_cons_of_mem _ (List.mem_append_left _ (List.mem_append_left _ (List.mem_append_left _ (List.mem_append_right _ h))))
  have inX8_ : ∀ w ∈ wsX80, w ∈ wsX10_mostDays := fun _ h => List.mem_cons_of_mem _ (List.mem_append_left _ (List.mem_append_left _ (List.mem_append_right _ h)))
  have hbN : b_ ≤ N := by have h1 := hV.1.1; have h2 := hV.2.2; omega
  have kn0 := sOk_N hok
  refine lv_aload_n hx_ hb_ dX10_mostDays_0 rfl (lv_at hl 0 rfl) ?_
  refine lv_iload_n hx_ hb_ dX10_mostDays_1 rfl (lv_at hl 1 rfl) ?_
  refine xk_Vv E hF_ hxt_ hQ hV (As := [.int (sI s)]) (rest := []) (kX10_needStone l_ G b_ M N c kn ch f s hc0 hst (by omega) (by omega) (by omega)) (cwV 1 S.2.2.2.2 gX10_mostDays_X10_needStone rfl rfl rfl (by decide +kernel) ⟨Nat.le_of_ble_eq_true rfl, Nat.le_of_ble_eq_true rfl⟩) (ci := 8) hc0 rfl rfl rfl hl.1 (Nat.le_of_ble_eq_true rfl) dX10_mostDays_2 (c1 := 1) (s1 := 6) ⟨⟨rfl, rfl⟩, by decide, by decide⟩ ⟨Nat.le_of_ble_eq_true rfl, Nat.le_of_ble_eq_true rfl⟩ ?_ (fun M1 N2 H locs hp3 hV => ?_)
  · rintro E9 M9 N9 ⟨hN5, hf6, hq7⟩
    rcases hq7 with ⟨c8, ee9⟩
    · exact ⟨by omega, fun x  => hf6 x , Or.inl ⟨(by first | exact c8 | omega), ee9⟩⟩
  obtain ⟨hN10, hf11, hq12⟩ := hp3
  rw [hN10] at hV
  rcases hq12 with c13
  · refine lv_iload_n hx_ hb_ dX10_mostDays_5 rfl (lv_at hl 2 rfl) ?_
    refine xk_Sv E hF_ hxt_ hQ hV (As := [.int (sI d)]) (rest := []) (kX10_needDate l_ G b_ M1 N d (by omega) (by omega)) (va_cwS 1 S.2.2.2.2 gX10_mostDays_X10_needDate rfl rfl rfl (by decide +kernel) ⟨Nat.le_of_ble_eq_true rfl, Nat.le_of_ble_eq_true rfl⟩) rfl rfl hl.1 (Nat.le_of_ble_eq_true rfl) dX10_mostDays_6 (c1 := 2) (s1 := 12) ⟨⟨rfl, rfl⟩, by decide, by decide⟩ ⟨Nat.le_of_ble_eq_true rfl, Nat.le_of_ble_eq_true rfl⟩ ?_ (fun M14 N15 H locs hp16 hV => ?_)
    · rintro E9 M9 N9 ⟨hN18, hf19, hq20⟩
      rcases hq20 with ⟨c21, ee22⟩
      · exact ⟨by omega, fun x  => (hf19 x ).trans (hf11 x ), Or.inr (⟨(⟨by omega, fun h => c21 h.1⟩), ee22⟩)⟩
    obtain ⟨hN23, hf24, hq25⟩ := hp16
    rw [hN23] at hV
    rcases hq25 with c26
    · refine lv_iload_n hx_ hb_ dX10_mostDays_9 rfl (lv_at hl 3 rfl) ?_
      refine si_const S dX10_mostDays_10 ?_
      refine si_sipush S dX10_mostDays_11 (by decide) ?_
      refine xk_Sv E hF_ hxt_ hQ hV (As := [.int (sI l), .int (sI 1), .int (sI 1000)]) (rest := []) (kX10_needRange l_ G b_ M14 N l 1 1000 (by omega) (by omega)) (va_cwS 3 S.2.2.2.2 gX10_mostDays_X10_needRange rfl rfl rfl (by decide +kernel) ⟨Nat.le_of_ble_eq_true rfl, Nat.le_of_ble_eq_true rfl⟩) rfl rfl hl.1 (Nat.le_of_ble_eq_true rfl) dX10_mostDays_14 (c1 := 3) (s1 := 18) ⟨⟨rfl, rfl⟩, by decide, by decide⟩ ⟨Nat.le_of_ble_eq_true rfl, Nat.le_of_ble_eq_true rfl⟩ ?_ (fun M27 N28 H locs hp29 hV => ?_)
      · rintro E9 M9 N9 ⟨hN31, hf32, hq33⟩
        rcases hq33 with ⟨c34, ee35⟩
        · exact ⟨by omega, fun x  => ((hf32 x ).trans (hf24 x )).trans (hf11 x ), Or.inr (⟨(⟨by omega, fun h => c34 h.2⟩), ee35⟩)⟩
      obtain ⟨hN36, hf37, hq38⟩ := hp29
      rw [hN36] at hV
      rcases hq38 with c39
      · refine lv_aload_n hx_ hb_ dX10_mostDays_17 rfl (lv_at hl 0 rfl) ?_
        have hc40 : M27 c = some (xO c kn ch) := (((hf37 c ).trans (hf24 c )).trans (hf11 c )).trans hc0
        refine sc_get (ci := 8) (C := RX10) (T := TX10) (n := 11) S hK hV inX10_ hc40 rfl 0 (by decide) (S.2.2.2.2 _ (List.mem_of_getElem? (i := 1) rfl)) rfl rfl dX10_mostDays_18 ?_
        refine lv_iload_n hx_ hb_ dX10_mostDays_21 rfl (lv_at hl 1 rfl) ?_
        refine lv_iload_n hx_ hb_ dX10_mostDays_22 rfl (lv_at hl 2 rfl) ?_
        refine lv_iload_n hx_ hb_ dX10_mostDays_23 rfl (lv_at hl 3 rfl) ?_
        have hc41 : stC G M27 (c + 1) f := hst.fr (fun x q8 q9 => ((hf37 x ).trans (hf24 x )).trans (hf11 x ))
        refine sk_SP E hV (As := [.ref (c + 1), .int (sI s), .int (sI d), .int (sI l)]) (rest := []) (kX4_daysPossible l_ G b_ M27 N (c + 1) f s d l hc41 (by omega) (by omega) (by omega) (by assumption) (by omega)) (va_cwS 4 S.2.2.2.2 gX10_mostDays_X4_daysPossible rfl rfl rfl (by decide +kernel) ⟨Nat.le_of_ble_eq_true rfl, Nat.le_of_ble_eq_true rfl⟩) rfl rfl hl.1 (Nat.le_of_ble_eq_true rfl) dX10_mostDays_24 (c1 := 3) (s1 := 18) ⟨⟨rfl, rfl⟩, by decide, by decide⟩ (fun H locs hV => ?_)
        exact xr_i E hQ dX10_mostDays_27 ⟨Nat.le_of_ble_eq_true rfl, Nat.le_of_ble_eq_true rfl⟩ hV (⟨rfl, fun x  => ((hf37 x ).trans (hf24 x )).trans (hf11 x ), ⟨(⟨by omega, by assumption, by omega, by omega⟩), rfl⟩⟩)
