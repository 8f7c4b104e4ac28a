/-! The catalogue written out. -/
theorem rb_eo {f : sF} (hok : sOk f) {x y z : Int} (hx : 0 ≤ x ∧ x < f 568) (hy : y = if x = 0 then 0 else cod (f (eoI f (f 568) (x - 1)))) (h : rbQ (tvS f) (f 568) y (f 568) z) : z = eoI f (f 568) x := by
  have hds := ds_ok hok
  have hS : ∀ o, 0 ≤ o → o < f 568 → 1 ≤ f o ∧ f o < 531441 := fun o a b => (sOk_S hok o a b).1
  have key : ∃ Y, (∀ o, 0 ≤ o → o < f 568 → (y < cod (f o) ↔ Y < f o)) ∧ isum (f 568) (leC f Y) = x := by
    by_cases e : x = 0
    · rw [if_pos e] at hy
      refine ⟨0, fun o a b => ?_, ?_⟩
      · have h1 := hS o a b
        have h2 := cod_1 h1
        exact ⟨fun _ => by omega, fun _ => by omega⟩
      · rw [e]
        exact isum_z fun o a b => if_neg (by have := hS o a b; omega)
    · rw [if_neg e] at hy
      have he := eo_i hds (x - 1) (by omega)
      refine ⟨f (eoI f (f 568) (x - 1)), fun o a b => ?_, ?_⟩
      · have h1 := hS o a b
        have h2 := hS _ he.1.1 he.1.2
        rw [hy]
        exact cod_lti (by omega) (by omega)
      · rw [np_nx hds he.1, he.2]
        omega
  obtain ⟨Y, k1, k2⟩ := key
  rcases h with ⟨e, h⟩ | ⟨h1, h2, h3⟩
  · have h4 := isum_b (n := f 568) (g := leC f Y) 1 1 (by omega) (fun o a b => by
      have h5 := h o a b
      rw [tvS_4] at h5
      have h6 : ¬ Y < f o := fun w => h5 ((k1 o a b).mpr w)
      unfold leC
      rw [if_pos (by omega)]
      omega)
    omega
  · rw [tvS_4] at h2
    refine eo_u hds h1 ?_
    rw [np_rb (y := Y) ⟨h1, (k1 z h1.1 h1.2).mp h2, fun o a b c => ?_⟩]
    · exact k2
    · have h4 := h3 o a b (by rw [tvS_4]; exact (k1 o a b).mpr c)
      rw [tvS_4, tvS_4] at h4
      have s1 := hS o a b
      have s2 := hS z h1.1 h1.2
      exact Int.not_lt.mp fun w => by have := cod_lt (v := f o) (w := f z) (by omega) w s2.2; omega
theorem sv_4 {f : sF} (hok : sOk f) : ∀ o, 0 ≤ o → o < f 568 → sR (tvS f o 4) := fun o a b => by
  rw [tvS_4]
  have h8 := cod_r (v := f o) (by have := (sOk_S hok o a b).1; omega)
  exact ⟨by omega, by omega⟩

abbrev rmX1_writeOut : Room := { frames := 3, cells := 0, slots := 0, locals := 87 }
set_option maxHeartbeats 4000000 in
set_option maxRecDepth 100000 in
theorem kX1_writeOut (l_ : Launch) (G : sG) (b_ : Nat) (M : sM) (N : Nat) (q a : Nat) (wc tk ts te tv : Int) (T f : sF) (hq0 : M q = some (sObj 0 [.ref (q + 1), .ref (q + 3), .int (sI wc), .int (sI tk), .int (sI ts), .int (sI te), .int (sI tv)])) (hw : M (q + 3) = some (sArC G 180 T)) (hst : stC G M a f) (hok : sOk f) (hne : q + 4 ≤ a ∨ a + 15 ≤ q) : cI l_ yX1_writeOut wsX1_writeOut rmX1_writeOut G b_ M N [.ref q, .ref a] (fun z_ M1 N1 => ∃ w9 : Int, ∃ T9 : Int → Int, z_ = (wrS f (f 568).toNat).1 ∧ N1 = N ∧ M1 q = some (sObj 0 [.ref (q + 1), .ref (q + 3), .int (sI w9), .int (sI tk), .int (sI ts), .int (sI te), .int (sI tv)]) ∧ M1 (q + 3) = some (sArC G 180 T9) ∧ (∀ x : Nat, ¬ (x = q) → ¬ (x = q + 3) → M1 x = M x) ∧ (wrE (wrS f (f 568).toNat) w9 T9 ∧ 0 ≤ w9 ∧ w9 ≤ 180)) := by
  refine sE.ofI (cc := cX1_writeOut) (nL := 6) (ret := (some .int)) (by decide) rfl (Nat.le_of_ble_eq_true rfl) ?_
  intro p_ e_ s_ m_ args_ below_ meth_ c_ ls Q hQ E hl
  have E : sE p_ l_ e_ rmX1_writeOut s_ m_ args_ below_ meth_ c_ cX1_writeOut 6 wsX1_writeOut RX1 "writeOut" (some .int) G b_ M N := E
  have S := E.1
  have hx_ := S.1
  have hb_ := S.2.1
  have hK := E.2.2.2.2.1
  have hV := E.2.2.2.2.2.2
  have hl : lv_has ls 6 [(0, .ref q), (1, .ref a)] := hl
  have inX1_ : ∀ w ∈ wsX10, w ∈ wsX1_writeOut := fun _ h => List.mem_cons_of_mem _ (List.mem_append_left _ (List.mem_append_left _ (List.mem_append_right _ h)))
  have inX6_ : ∀ w ∈ wsX60, w ∈ wsX1_writeOut := fun _ h => List.mem_cons_of_mem _ (List.mem_append_left _ (List.mem_append_right _ h))
  have inX8_ : ∀ w ∈ wsX80, w ∈ wsX1_writeOut := fun _ h => List.mem_cons_of_mem _ (List.mem_append_right _ h)
  have kn0 := sOk_N hok
  have hds := ds_ok hok
  refine lv_aload_n hx_ hb_ dX1_writeOut_0 rfl (lv_at hl 0 rfl) ?_
  refine si_const S dX1_writeOut_1 ?_
  refine sc_put (ci := 0) (C := RX1) (T := TX1) (n := 7) S hK hV inX1_ tyX1_ok nmX1 hq0 rfl 2 (by decide) (S.2.2.2.2 _ (List.mem_of_getElem? (i := 1) rfl)) rfl rfl rfl rfl (Nat.le_of_ble_eq_true rfl) dX1_writeOut_2 (fs1 := [.ref (q + 1), .ref (q + 3), .int (sI 0), .int (sI tk), .int (sI ts), .int (sI te), .int (sI tv)]) rfl (fun M1 H locs hM1 hV => ?_)
  have hc2 : M1 q = some (sObj 0 [.ref (q + 1), .ref (q + 3), .int (sI 0), .int (sI tk), .int (sI ts), .int (sI te), .int (sI tv)]) := (congrFun hM1 q).trans (va_up_self M q _)
  refine si_const S dX1_writeOut_5 ?_
  refine lv_istore_n (lv' := [(2, .int (sI 0)), (0, .ref q), (1, .ref a)]) hx_ hb_ dX1_writeOut_6 rfl hl (by decide) rfl (fun ls hl => ?_)
  refine si_const S dX1_writeOut_7 ?_
  refine lv_istore_n (lv' := [(3, .int (sI 0)), (2, .int (sI 0)), (0, .ref q), (1, .ref a)]) hx_ hb_ dX1_writeOut_8 rfl hl (by decide) rfl (fun ls hl => ?_)
  have L9 : ∀ (fuel : Nat) (y : Int) (x : Int) (w2 : Int) (T2 : Int → Int) (Ml9 : sM) (H : Heap) (locs : List Loc) (ls : Array Slot), ((f 568 - x).toNat) < fuel → (0 ≤ x ∧ x ≤ f 568 ∧ 0 ≤ y ∧ y ≤ 2054847098) → (wrE (wrS f x.toNat) w2 T2) → (y = if x = 0 then 0 else cod (f (eoI f (f 568) (x - 1)))) → (0 ≤ w2 ∧ w2 ≤ 18 * x) → (Ml9 q = some (sObj 0 [.ref (q + 1), .ref (q + 3), .int (sI w2), .int (sI tk), .int (sI ts), .int (sI te), .int (sI tv)])) → (Ml9 (q + 3) = some (sArC G 180 T2)) → (∀ x : Nat, ¬ (x = q) → ¬ (x = q + 3) → Ml9 x = M1 x) → sV G b_ Ml9 N s_ H locs → lv_has ls 6 [(0, .ref q), (1, .ref a), (2, .int (sI y)), (3, .int (sI x))] → W p_ l_ e_ rmX1_writeOut s_ m_ args_ below_ meth_ c_ H locs 0 0 Q (F0 m_ 9 ls []) := by
    intro fuel
    induction fuel with
    | zero => intro y x w2 T2 Ml9 H locs ls hmu; exact absurd hmu (Nat.not_lt_zero _)
    | succ fuel ih9 =>
      intro y x w2 T2 Ml9 H locs ls hmu9 hv9_0 hE hy hw2 hm9_0 hm9_1 hfr9 hV hl
      refine lv_iload_n hx_ hb_ dX1_writeOut_9 rfl (lv_at hl 3 rfl) ?_
      refine lv_aload_n hx_ hb_ dX1_writeOut_10 rfl (lv_at hl 1 rfl) ?_
      have hc3 : stC G Ml9 a f := hst.fr (fun x q8 q9 => (hfr9 x (by omega) (by omega)).trans ((congrFun hM1 x).trans (va_up_ne M _ (by omega))))
      refine sc_getN (ci := 4) (C := RX6) (T := TX6) (n := 8) S hK hV inX6_ (hc3).1 rfl 0 (by decide) (E.2.2.2.2.2.1.1.2.1 _ (List.mem_of_getElem? (i := 4) rfl)) rfl rfl dX1_writeOut_11 ?_
      refine sk_VP E hV (As := []) (rest := [.int (sI x)]) (kTs l_ G b_ Ml9 N (a + 1) 7 (f 568) 70 (tvS f) ((hc3).2.1)) (cwV 0 S.2.2.2.2 gX1_writeOut_X8_size rfl rfl rfl (by decide +kernel) ⟨Nat.le_of_ble_eq_true rfl, Nat.le_of_ble_eq_true rfl⟩) (ci := 6) ((hc3).2.1).1 rfl rfl rfl hl.1 (Nat.le_of_ble_eq_true rfl) dX1_writeOut_14 (c1 := 0) (s1 := 0) ⟨⟨rfl, rfl⟩, by decide, by decide⟩ (fun H locs hV => ?_)
      refine sb_ge (tgt := 94) S dX1_writeOut_17 (by decide) (by omega) (fun c4 => ?_) (fun c4 => ?_)
      · refine lv_aload_n hx_ hb_ dX1_writeOut_94 rfl (lv_at hl 0 rfl) ?_
        refine sc_get (ci := 0) (C := RX1) (T := TX1) (n := 7) S hK hV inX1_ hm9_0 rfl 2 (by decide) (S.2.2.2.2 _ (List.mem_of_getElem? (i := 1) rfl)) rfl rfl dX1_writeOut_95 ?_
        exact sr_i E hQ dX1_writeOut_98 ⟨Nat.le_of_ble_eq_true rfl, Nat.le_of_ble_eq_true rfl⟩ hV (⟨w2, T2, by rw [hE.1, show x = f 568 by omega], rfl, hm9_0, hm9_1, fun x q0 q1 => (hfr9 x (by omega) (by omega)).trans ((congrFun hM1 x).trans (va_up_ne M _ (by omega))), ⟨by rw [show f 568 = x by omega]; exact hE, by omega⟩⟩)
      · refine lv_aload_n hx_ hb_ dX1_writeOut_20 rfl (lv_at hl 1 rfl) ?_
        refine sc_getN (ci := 4) (C := RX6) (T := TX6) (n := 8) S hK hV inX6_ (hc3).1 rfl 0 (by decide) (E.2.2.2.2.2.1.1.2.1 _ (List.mem_of_getElem? (i := 4) rfl)) rfl rfl dX1_writeOut_21 ?_
        refine lv_iload_n hx_ hb_ dX1_writeOut_24 rfl (lv_at hl 2 rfl) ?_
        refine sk_Si E hV (As := [.ref (a + 1), .int (sI y)]) (rest := []) (kX1_rowBehind l_ G b_ Ml9 N (a + 1) 7 (f 568) 70 (tvS f) y ((hc3).2.1) (by omega) (by omega) (sv_4 hok) (by omega)) (va_cwS 2 S.2.2.2.2 gX1_writeOut_X1_rowBehind rfl rfl rfl (by decide +kernel) ⟨Nat.le_of_ble_eq_true rfl, Nat.le_of_ble_eq_true rfl⟩) rfl rfl hl.1 (Nat.le_of_ble_eq_true rfl) dX1_writeOut_25 (c1 := 0) (s1 := 0) ⟨⟨rfl, rfl⟩, by decide, by decide⟩ (fun z8 M5 N6 H locs hp7 hV => ?_)
        obtain ⟨hN9, hf10, hz11⟩ := hp7
        rw [hN9] at hV
        have hzs := rb_eo hok ⟨by omega, by omega⟩ hy hz11
        have hzr := (eo_i hds x (by omega)).1
        rw [← hzs] at hzr
        have hzS := sOk_S hok z8 (by omega) (by omega)
        have hzc := cod_r (v := f z8) (by omega)
        refine lv_istore (lv' := [(4, .int (sI z8)), (0, .ref q), (1, .ref a), (2, .int (sI y)), (3, .int (sI x))]) hx_ hb_ dX1_writeOut_28 hl (by decide) rfl (fun ls hl => ?_)
        refine lv_aload_n hx_ hb_ dX1_writeOut_30 rfl (lv_at hl 2 rfl) ?_
        have hc12 : stC G M5 a f := hc3.fr (fun x q8 q9 => hf10 x )
        refine sc_getN (ci := 4) (C := RX6) (T := TX6) (n := 8) S hK hV inX6_ (hc12).1 rfl 0 (by decide) (E.2.2.2.2.2.1.1.2.1 _ (List.mem_of_getElem? (i := 4) rfl)) rfl rfl dX1_writeOut_31 ?_
        refine lv_iload hx_ hb_ dX1_writeOut_34 (lv_at hl 0 rfl) ?_
        refine si_const S dX1_writeOut_36 ?_
        refine sk_VP E hV (As := [.int (sI z8), .int (sI 4)]) (rest := []) (kTg l_ G b_ M5 N (a + 1) 7 (f 568) 70 (tvS f) z8 4 (cod (f z8)) ((hc12).2.1) (by omega) (by omega) (tvS_4 f z8)) (cwV 2 S.2.2.2.2 gX1_writeOut_X8_get rfl rfl rfl (by decide +kernel) ⟨Nat.le_of_ble_eq_true rfl, Nat.le_of_ble_eq_true rfl⟩) (ci := 6) ((hc12).2.1).1 rfl rfl rfl hl.1 (Nat.le_of_ble_eq_true rfl) dX1_writeOut_37 (c1 := 0) (s1 := 0) ⟨⟨rfl, rfl⟩, by decide, by decide⟩ (fun H locs hV => ?_)
        refine lv_istore_n (lv' := [(2, .int (sI (cod (f z8)))), (4, .int (sI z8)), (0, .ref q), (1, .ref a), (3, .int (sI x))]) hx_ hb_ dX1_writeOut_40 rfl hl (by decide) rfl (fun ls hl => ?_)
        refine lv_aload_n hx_ hb_ dX1_writeOut_41 rfl (lv_at hl 2 rfl) ?_
        refine lv_iload_n hx_ hb_ dX1_writeOut_42 rfl (lv_at hl 0 rfl) ?_
        have hc13 : M5 q = some (sObj 0 [.ref (q + 1), .ref (q + 3), .int (sI w2), .int (sI tk), .int (sI ts), .int (sI te), .int (sI tv)]) := (hf10 q ).trans hm9_0
        have hc14 : M5 (q + 3) = some (sArC G 180 T2) := (hf10 (q + 3) ).trans hm9_1
        refine sk_Vv E hV (As := [.int (sI (cod (f z8)))]) (rest := []) (kX1_putCode l_ G b_ M5 N q w2 tk ts te tv T2 (f z8) (wrS f x.toNat) hc13 hc14 (by omega) (hE) (by omega)) (cwV 1 S.2.2.2.2 gX1_writeOut_X1_putCode rfl rfl rfl (by decide +kernel) ⟨Nat.le_of_ble_eq_true rfl, Nat.le_of_ble_eq_true rfl⟩) (ci := 0) hc13 rfl rfl rfl hl.1 (Nat.le_of_ble_eq_true rfl) dX1_writeOut_43 (c1 := 0) (s1 := 0) ⟨⟨rfl, rfl⟩, by decide, by decide⟩ (fun M15 N16 H locs hp17 hV => ?_)
        obtain ⟨w919, T920, hN21, hc22, hc23, hf24, hE925, hw926⟩ := hp17
        rw [hN21] at hV
        have hcE := hE925
        have hcw := hw926
        refine si_const S dX1_writeOut_46 ?_
        refine lv_istore (lv' := [(5, .int (sI 0)), (2, .int (sI (cod (f z8)))), (4, .int (sI z8)), (0, .ref q), (1, .ref a), (3, .int (sI x))]) hx_ hb_ dX1_writeOut_47 hl (by decide) rfl (fun ls hl => ?_)
        have L49 : ∀ (fuel : Nat) (j : Int) (w4 : Int) (T4 : Int → Int) (Ml49 : sM) (H : Heap) (locs : List Loc) (ls : Array Slot), ((4 - j).toNat) < fuel → (0 ≤ j ∧ j ≤ 4) → (wrE (nuW f z8 (coW (f z8) (wrS f x.toNat)) j.toNat) w4 T4) → (0 ≤ w4 ∧ w4 ≤ w2 + 4 + nlI j) → (Ml49 q = some (sObj 0 [.ref (q + 1), .ref (q + 3), .int (sI w4), .int (sI tk), .int (sI ts), .int (sI te), .int (sI tv)])) → (Ml49 (q + 3) = some (sArC G 180 T4)) → (∀ x : Nat, ¬ (x = q) → ¬ (x = q + 3) → Ml49 x = M15 x) → sV G b_ Ml49 N s_ H locs → lv_has ls 6 [(0, .ref q), (1, .ref a), (2, .int (sI (cod (f z8)))), (3, .int (sI x)), (4, .int (sI z8)), (5, .int (sI j))] → W p_ l_ e_ rmX1_writeOut s_ m_ args_ below_ meth_ c_ H locs 0 0 Q (F0 m_ 49 ls []) := by
          intro fuel
          induction fuel with
          | zero => intro j w4 T4 Ml49 H locs ls hmu; exact absurd hmu (Nat.not_lt_zero _)
          | succ fuel ih49 =>
            intro j w4 T4 Ml49 H locs ls hmu49 hv49_0 hE4 hw4 hm49_0 hm49_1 hfr49 hV hl
            have hnl := nl_r j
            refine lv_iload hx_ hb_ dX1_writeOut_49 (lv_at hl 5 rfl) ?_
            refine si_const S dX1_writeOut_51 ?_
            refine sb_gt (tgt := 82) S dX1_writeOut_52 (by decide) (by omega) (fun c27 => ?_) (fun c27 => ?_)
            · refine lv_aload_n hx_ hb_ dX1_writeOut_82 rfl (lv_at hl 0 rfl) ?_
              refine si_bipush S dX1_writeOut_83 (by decide) ?_
              refine sk_Vv E hV (As := [.int (sI 59)]) (rest := []) (kX1_putSign l_ G b_ Ml49 N q w4 tk ts te tv T4 59 hm49_0 hm49_1 (by omega) (by omega)) (cwV 1 S.2.2.2.2 gX1_writeOut_X1_putSign rfl rfl rfl (by decide +kernel) ⟨Nat.le_of_ble_eq_true rfl, Nat.le_of_ble_eq_true rfl⟩) (ci := 0) hm49_0 rfl rfl rfl hl.1 (Nat.le_of_ble_eq_true rfl) dX1_writeOut_85 (c1 := 0) (s1 := 0) ⟨⟨rfl, rfl⟩, by decide, by decide⟩ (fun M28 N29 H locs hp30 hV => ?_)
              obtain ⟨hN32, hc33, hc34, hf35⟩ := hp30
              rw [hN32] at hV
              refine si_inc (lv' := [(3, .int (sI (x + 1))), (0, .ref q), (1, .ref a), (2, .int (sI (cod (f z8)))), (4, .int (sI z8)), (5, .int (sI j))]) S dX1_writeOut_88 hl (k := 3) rfl (by decide) rfl (fun ls hl => ?_)
              refine lv_goto (tgt := 9) hx_ hb_ dX1_writeOut_91 (by decide) ?_
              exact ih9 (cod (f z8)) (x + 1) (w4 + 1) (iup T4 w4 59) M28 _ _ _ (by omega) (by omega) (by rw [wrS_s f x (by omega), ← hzs]; unfold wr1; rw [show nuW f z8 (coW (f z8) (wrS f x.toNat)) 4 = nuW f z8 (coW (f z8) (wrS f x.toNat)) j.toNat by rw [show j = 4 by omega]; rfl]; exact wrE_a hE4 59) (by rw [if_neg (by omega), show x + 1 - 1 = x by omega, ← hzs]) (by rw [show j = 4 by omega, show nlI 4 = 13 from rfl] at hw4; omega) hc33 hc34 (fun x q0 q1 => ((((hf35 x (by omega) (by omega)).trans (hfr49 x (by omega) (by omega))).trans (hf24 x (by omega) (by omega))).trans (hf10 x )).trans (hfr9 x (by omega) (by omega))) hV (lv_sub hl [1, 2, 3, 0] rfl)
            · refine lv_aload_n hx_ hb_ dX1_writeOut_55 rfl (lv_at hl 0 rfl) ?_
              refine si_bipush S dX1_writeOut_56 (by decide) ?_
              refine sk_Vv E hV (As := [.int (sI 32)]) (rest := []) (kX1_putSign l_ G b_ Ml49 N q w4 tk ts te tv T4 32 hm49_0 hm49_1 (by omega) (by omega)) (cwV 1 S.2.2.2.2 gX1_writeOut_X1_putSign rfl rfl rfl (by decide +kernel) ⟨Nat.le_of_ble_eq_true rfl, Nat.le_of_ble_eq_true rfl⟩) (ci := 0) hm49_0 rfl rfl rfl hl.1 (Nat.le_of_ble_eq_true rfl) dX1_writeOut_58 (c1 := 0) (s1 := 0) ⟨⟨rfl, rfl⟩, by decide, by decide⟩ (fun M36 N37 H locs hp38 hV => ?_)
              obtain ⟨hN40, hc41, hc42, hf43⟩ := hp38
              rw [hN40] at hV
              refine lv_aload_n hx_ hb_ dX1_writeOut_61 rfl (lv_at hl 0 rfl) ?_
              refine lv_aload_n hx_ hb_ dX1_writeOut_62 rfl (lv_at hl 1 rfl) ?_
              have hc44 : stC G M36 a f := hc12.fr (fun x q8 q9 => ((hf43 x (by omega) (by omega)).trans (hfr49 x (by omega) (by omega))).trans (hf24 x (by omega) (by omega)))
              refine sc_getN (ci := 4) (C := RX6) (T := TX6) (n := 8) S hK hV inX6_ (hc44).1 rfl 0 (by decide) (E.2.2.2.2.2.1.1.2.1 _ (List.mem_of_getElem? (i := 4) rfl)) rfl rfl dX1_writeOut_63 ?_
              refine lv_iload hx_ hb_ dX1_writeOut_66 (lv_at hl 4 rfl) ?_
              refine lv_iload hx_ hb_ dX1_writeOut_68 (lv_at hl 5 rfl) ?_
              refine sk_VP E hV (As := [.int (sI z8), .int (sI j)]) (rest := [.ref q]) (kTg l_ G b_ M36 N (a + 1) 7 (f 568) 70 (tvS f) z8 j (f (10 + 10 * j + z8)) ((hc44).2.1) (by omega) (by omega) (tvS_v f z8 j (by omega))) (cwV 2 S.2.2.2.2 gX1_writeOut_X8_get rfl rfl rfl (by decide +kernel) ⟨Nat.le_of_ble_eq_true rfl, Nat.le_of_ble_eq_true rfl⟩) (ci := 6) ((hc44).2.1).1 rfl rfl rfl hl.1 (Nat.le_of_ble_eq_true rfl) dX1_writeOut_70 (c1 := 0) (s1 := 0) ⟨⟨rfl, rfl⟩, by decide, by decide⟩ (fun H locs hV => ?_)
              have kn45 := okS_v hok j z8 (by omega) (by omega) (by omega)
              refine sk_Vv E hV (As := [.int (sI (f (10 + 10 * j + z8)))]) (rest := []) (kX1_putNumber l_ G b_ M36 N q (w4 + 1) tk ts te tv (iup T4 w4 32) (f (10 + 10 * j + z8)) (wrA (nuW f z8 (coW (f z8) (wrS f x.toNat)) j.toNat) 32) hc41 hc42 (ok_num hok z8 j (by omega) (by omega)) (wrE_a hE4 32) (by have := nl_s hok z8 j (by omega) (by omega); have := nl_r (j + 1); omega)) (cwV 1 S.2.2.2.2 gX1_writeOut_X1_putNumber rfl rfl rfl (by decide +kernel) ⟨Nat.le_of_ble_eq_true rfl, Nat.le_of_ble_eq_true rfl⟩) (ci := 0) hc41 rfl rfl rfl hl.1 (Nat.le_of_ble_eq_true rfl) dX1_writeOut_73 (c1 := 0) (s1 := 0) ⟨⟨rfl, rfl⟩, by decide, by decide⟩ (fun M46 N47 H locs hp48 hV => ?_)
              obtain ⟨w950, T951, hN52, hc53, hc54, hf55, hE956, hw957⟩ := hp48
              rw [hN52] at hV
              have hnE := hE956
              have hnw := hw957
              refine si_inc (lv' := [(5, .int (sI (j + 1))), (0, .ref q), (1, .ref a), (2, .int (sI (cod (f z8)))), (3, .int (sI x)), (4, .int (sI z8))]) S dX1_writeOut_76 hl (k := 5) rfl (by decide) rfl (fun ls hl => ?_)
              refine lv_goto (tgt := 49) hx_ hb_ dX1_writeOut_79 (by decide) ?_
              exact ih49 (j + 1) w950 T951 M46 _ _ _ (by omega) (by omega) (by rw [nuW_s _ _ _ _ (by omega)]; exact hnE) (by have := nl_s hok z8 j (by omega) (by omega); omega) hc53 hc54 (fun x q0 q1 => ((hf55 x (by omega) (by omega)).trans (hf43 x (by omega) (by omega))).trans (hfr49 x (by omega) (by omega))) hV (lv_sub hl [1, 2, 3, 4, 5, 0] rfl)
        exact L49 _ 0 w919 T920 M15 _ _ _ (Nat.lt_succ_self _) (by omega) (hcE) (by rw [show nlI 0 = 0 from rfl]; omega) hc22 hc23 (fun x q0 q1 => rfl) hV (lv_sub hl [3, 4, 1, 5, 2, 0] rfl)
  have hc58 : M1 (q + 3) = some (sArC G 180 T) := ((congrFun hM1 (q + 3)).trans (va_up_ne M _ (by omega))).trans hw
  exact L9 _ 0 0 0 T M1 _ _ _ (Nat.lt_succ_self _) (by omega) (⟨rfl, fun q a b => by have b2 : q < 0 := b; omega⟩) (by rw [if_pos rfl]) (by omega) hc2 hc58 (fun x q0 q1 => rfl) hV (lv_sub hl [2, 3, 1, 0] rfl)
