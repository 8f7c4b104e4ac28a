/-! The catalogue joined. -/

abbrev rmX1_isJoinedTo : Room := { frames := 4, cells := 0, slots := 0, locals := 110 }
set_option maxHeartbeats 4000000 in
set_option maxRecDepth 100000 in
theorem kX1_isJoinedTo (l_ : Launch) (G : sG) (b_ : Nat) (M : sM) (N : Nat) (q a : Nat) (wc tk ts te tv ne : Int) (et : Int → Int → Int) (f C V : sF) (hq0 : M q = some (sObj 0 [.ref (q + 1), .ref (q + 3), .int (sI wc), .int (sI tk), .int (sI ts), .int (sI te), .int (sI tv)])) (hu : stK G M (q + 1) 5 ne 165 et) (hst : stC G M a f) (hok : sOk f) (hO : rcO 0 ne C V) (hen : enR ne (4 * ne) et C V) (hn : 0 ≤ ne ∧ ne ≤ 33) (hdi : q + 4 ≤ a ∨ a + 15 ≤ q) : cI l_ yX1_isJoinedTo wsX1_isJoinedTo rmX1_isJoinedTo G b_ M N [.ref q, .ref a] (fun z_ M1 N1 => ∃ g9 : Int → Int, z_ = bI (∀ y, 0 ≤ y → y < ne → ¬ jnU C V ne f y) ∧ N1 = N ∧ stC G M1 a g9 ∧ (∀ x : Nat, ¬ (a ≤ x ∧ x < a + 15) → M1 x = M x) ∧ (sOk g9) ∧ ((∀ y, 0 ≤ y → y < ne → ¬ jnU C V ne f y) → g9 = jnS C V ne f ne.toNat)) := by
  refine sE.ofI (cc := cX1_isJoinedTo) (nL := 6) (ret := (some .boolean)) (by decide) rfl (Nat.le_of_ble_eq_true rfl) ?_
  intro p_ e_ s_ m_ args_ below_ meth_ c_ ls Q hQ E hl
  have E : sE p_ l_ e_ rmX1_isJoinedTo s_ m_ args_ below_ meth_ c_ cX1_isJoinedTo 6 wsX1_isJoinedTo RX1 "isJoinedTo" (some .boolean) G b_ M N := E
  have S := E.1
  have hx_ := S.1
  have hb_ := S.2.1
  have hK := E.2.2.2.2.1
  have hV := E.2.2.2.2.2.2
  have hl : lv_has ls 6 [(0, .ref q), (1, .ref a)] := hl
  have inX1_ : ∀ w ∈ wsX10, w ∈ wsX1_isJoinedTo := fun _ h => List.mem_cons_of_mem _ (List.mem_append_left _ (List.mem_append_left _ (List.mem_append_right _ h)))
  have inX6_ : ∀ w ∈ wsX60, w ∈ wsX1_isJoinedTo := fun _ h => List.mem_cons_of_mem _ (List.mem_append_left _ (List.mem_append_right _ h))
  have inX8_ : ∀ w ∈ wsX80, w ∈ wsX1_isJoinedTo := fun _ h => List.mem_cons_of_mem _ (List.mem_append_right _ h)
  have kn0 := sOk_N hok
  have hD := (rcO_d hO).1
  have hCr := (rcO_r hO).1
  refine si_const S dX1_isJoinedTo_0 ?_
  refine lv_istore_n (lv' := [(2, .int (sI 0)), (0, .ref q), (1, .ref a)]) hx_ hb_ dX1_isJoinedTo_1 rfl hl (by decide) rfl (fun ls hl => ?_)
  refine si_const S dX1_isJoinedTo_2 ?_
  refine lv_istore_n (lv' := [(3, .int (sI 0)), (2, .int (sI 0)), (0, .ref q), (1, .ref a)]) hx_ hb_ dX1_isJoinedTo_3 rfl hl (by decide) rfl (fun ls hl => ?_)
  have L4 : ∀ (fuel : Nat) (y : Int) (x : Int) (g2 : Int → Int) (Ml4 : sM) (H : Heap) (locs : List Loc) (ls : Array Slot), ((ne - x).toNat) < fuel → (0 ≤ x ∧ x ≤ ne ∧ 0 ≤ y ∧ y ≤ 2054847098) → (g2 = jnS C V ne f x.toNat) → (∀ y, 0 ≤ y → y < x → ¬ jnU C V ne f y) → (y = if x = 0 then 0 else cod (C (eoI C ne (x - 1)))) → (stC G Ml4 a g2) → (∀ x : Nat, ¬ (a ≤ x ∧ x < a + 15) → Ml4 x = M x) → sV G b_ Ml4 N s_ H locs → lv_has ls 6 [(0, .ref q), (1, .ref a), (2, .int (sI y)), (3, .int (sI x))] → W p_ l_ e_ rmX1_isJoinedTo s_ m_ args_ below_ meth_ c_ H locs 0 0 Q (F0 m_ 4 ls []) := by
    intro fuel
    induction fuel with
    | zero => intro y x g2 Ml4 H locs ls hmu; exact absurd hmu (Nat.not_lt_zero _)
    | succ fuel ih4 =>
      intro y x g2 Ml4 H locs ls hmu4 hv4_0 hg hnf hy hm4_0 hfr4 hV hl
      have hok2 : sOk g2 := by rw [hg]; exact ok_jn hO hok x ⟨by omega, by omega⟩ hnf
      have hN2 := sOk_N hok2
      refine lv_iload_n hx_ hb_ dX1_isJoinedTo_4 rfl (lv_at hl 3 rfl) ?_
      refine lv_aload_n hx_ hb_ dX1_isJoinedTo_5 rfl (lv_at hl 0 rfl) ?_
      have hc1 : Ml4 q = some (sObj 0 [.ref (q + 1), .ref (q + 3), .int (sI wc), .int (sI tk), .int (sI ts), .int (sI te), .int (sI tv)]) := (hfr4 q (by omega)).trans hq0
      refine sc_get (ci := 0) (C := RX1) (T := TX1) (n := 7) S hK hV inX1_ hc1 rfl 0 (by decide) (S.2.2.2.2 _ (List.mem_of_getElem? (i := 1) rfl)) rfl rfl dX1_isJoinedTo_6 ?_
      have hc2 : stK G Ml4 (q + 1) 5 ne 165 et := hu.fr (fun x q8 q9 => hfr4 x (by omega))
      refine sk_VP E hV (As := []) (rest := [.int (sI x)]) (kTs l_ G b_ Ml4 N (q + 1) 5 ne 165 et hc2) (cwV 0 S.2.2.2.2 gX1_isJoinedTo_X8_size rfl rfl rfl (by decide +kernel) ⟨Nat.le_of_ble_eq_true rfl, Nat.le_of_ble_eq_true rfl⟩) (ci := 6) (hc2).1 rfl rfl rfl hl.1 (Nat.le_of_ble_eq_true rfl) dX1_isJoinedTo_9 (c1 := 0) (s1 := 0) ⟨⟨rfl, rfl⟩, by decide, by decide⟩ (fun H locs hV => ?_)
      refine sb_ge (tgt := 134) S dX1_isJoinedTo_12 (by decide) (by omega) (fun c3 => ?_) (fun c3 => ?_)
      · refine si_const S dX1_isJoinedTo_134 ?_
        exact sr_z E hQ (Or.inr rfl) dX1_isJoinedTo_135 ⟨Nat.le_of_ble_eq_true rfl, Nat.le_of_ble_eq_true rfl⟩ hV (⟨g2, (bI_t (fun y a1 b1 => hnf y a1 (by omega))).symm, rfl, hm4_0, fun x q0 => hfr4 x (by omega), hok2, fun _ => by rw [hg, show x = ne by omega]⟩)
      · refine lv_aload_n hx_ hb_ dX1_isJoinedTo_15 rfl (lv_at hl 0 rfl) ?_
        refine sc_get (ci := 0) (C := RX1) (T := TX1) (n := 7) S hK hV inX1_ hc1 rfl 0 (by decide) (S.2.2.2.2 _ (List.mem_of_getElem? (i := 1) rfl)) rfl rfl dX1_isJoinedTo_16 ?_
        refine lv_iload_n hx_ hb_ dX1_isJoinedTo_19 rfl (lv_at hl 2 rfl) ?_
        refine sk_Si E hV (As := [.ref (q + 1), .int (sI y)]) (rest := []) (kX1_rowBehind l_ G b_ Ml4 N (q + 1) 5 ne 165 et y hc2 (by omega) (by omega) (fun o o1 o2 => by rw [hen.1 o o1 o2]; have o3 := cod_r (v := C o) (by have := hCr o o1 o2; omega); exact ⟨by omega, by omega⟩) (by omega)) (va_cwS 2 S.2.2.2.2 gX1_isJoinedTo_X1_rowBehind rfl rfl rfl (by decide +kernel) ⟨Nat.le_of_ble_eq_true rfl, Nat.le_of_ble_eq_true rfl⟩) rfl rfl hl.1 (Nat.le_of_ble_eq_true rfl) dX1_isJoinedTo_20 (c1 := 0) (s1 := 0) ⟨⟨rfl, rfl⟩, by decide, by decide⟩ (fun z7 M4 N5 H locs hp6 hV => ?_)
        obtain ⟨hN8, hf9, hz10⟩ := hp6
        rw [hN8] at hV
        have hze := rb_en hD ⟨by omega, by omega⟩ hen.1 hy hz10
        have hzr := (eo_i hD x ⟨by omega, by omega⟩).1
        rw [← hze] at hzr
        have hzS := hCr z7 hzr.1 hzr.2
        have hzc := cod_r (v := C z7) (by omega)
        refine lv_istore (lv' := [(4, .int (sI z7)), (0, .ref q), (1, .ref a), (2, .int (sI y)), (3, .int (sI x))]) hx_ hb_ dX1_isJoinedTo_23 hl (by decide) rfl (fun ls hl => ?_)
        refine lv_aload_n hx_ hb_ dX1_isJoinedTo_25 rfl (lv_at hl 1 rfl) ?_
        have hc11 : M4 q = some (sObj 0 [.ref (q + 1), .ref (q + 3), .int (sI wc), .int (sI tk), .int (sI ts), .int (sI te), .int (sI tv)]) := (hf9 q ).trans hc1
        refine sc_get (ci := 0) (C := RX1) (T := TX1) (n := 7) S hK hV inX1_ hc11 rfl 0 (by decide) (S.2.2.2.2 _ (List.mem_of_getElem? (i := 1) rfl)) rfl rfl dX1_isJoinedTo_26 ?_
        refine lv_iload hx_ hb_ dX1_isJoinedTo_29 (lv_at hl 0 rfl) ?_
        refine si_const S dX1_isJoinedTo_31 ?_
        have hc12 : stK G M4 (q + 1) 5 ne 165 et := hc2.fr (fun x q8 q9 => hf9 x )
        refine sk_VP E hV (As := [.int (sI z7), .int (sI 4)]) (rest := []) (kTg l_ G b_ M4 N (q + 1) 5 ne 165 et z7 4 (et z7 4) hc12 (by omega) (by omega) (rfl)) (cwV 2 S.2.2.2.2 gX1_isJoinedTo_X8_get rfl rfl rfl (by decide +kernel) ⟨Nat.le_of_ble_eq_true rfl, Nat.le_of_ble_eq_true rfl⟩) (ci := 6) (hc12).1 rfl rfl rfl hl.1 (Nat.le_of_ble_eq_true rfl) dX1_isJoinedTo_32 (c1 := 0) (s1 := 0) ⟨⟨rfl, rfl⟩, by decide, by decide⟩ (fun H locs hV => ?_)
        rw [hen.1 z7 hzr.1 hzr.2]
        refine lv_istore_n (lv' := [(2, .int (sI (cod (C z7)))), (4, .int (sI z7)), (0, .ref q), (1, .ref a), (3, .int (sI x))]) hx_ hb_ dX1_isJoinedTo_35 rfl hl (by decide) rfl (fun ls hl => ?_)
        refine lv_aload_n hx_ hb_ dX1_isJoinedTo_36 rfl (lv_at hl 3 rfl) ?_
        refine lv_iload_n hx_ hb_ dX1_isJoinedTo_37 rfl (lv_at hl 0 rfl) ?_
        have hc13 : stC G M4 a g2 := hm4_0.fr (fun x q8 q9 => hf9 x )
        refine sk_VP E hV (As := [.int (sI (cod (C z7)))]) (rest := []) (kX6_numberOf l_ G b_ M4 N a g2 (C z7) hc13 (hok2) (by omega)) (cwV 1 S.2.2.2.2 gX1_isJoinedTo_X6_numberOf rfl rfl rfl (by decide +kernel) ⟨Nat.le_of_ble_eq_true rfl, Nat.le_of_ble_eq_true rfl⟩) (ci := 4) (hc13).1 rfl rfl rfl hl.1 (Nat.le_of_ble_eq_true rfl) dX1_isJoinedTo_38 (c1 := 0) (s1 := 0) ⟨⟨rfl, rfl⟩, by decide, by decide⟩ (fun H locs hV => ?_)
        refine lv_istore (lv' := [(5, .int (sI (idx (fun q => g2 q = (C z7)) (g2 568)))), (2, .int (sI (cod (C z7)))), (4, .int (sI z7)), (0, .ref q), (1, .ref a), (3, .int (sI x))]) hx_ hb_ dX1_isJoinedTo_41 hl (by decide) rfl (fun ls hl => ?_)
        obtain ⟨s5, hs5⟩ : ∃ s5, s5 = idx (fun q => g2 q = C z7) (g2 568) := ⟨_, rfl⟩
        have hix := idx_cases (fun q => g2 q = C z7) (g2 568)
        rw [← hs5] at hl hix
        have hixr : -1 ≤ s5 ∧ s5 < g2 568 := by rcases hix with ⟨a1, -⟩ | ⟨a1, b1, -, -⟩ <;> omega
        clear hix
        refine lv_iload hx_ hb_ dX1_isJoinedTo_43 (lv_at hl 0 rfl) ?_
        refine si_const S dX1_isJoinedTo_45 ?_
        refine sb_ne (tgt := 61) S dX1_isJoinedTo_46 (by decide) (by omega) (fun c14 => ?_) (fun c14 => ?_)
        · refine lv_iload hx_ hb_ dX1_isJoinedTo_61 (lv_at hl 0 rfl) ?_
          refine si_const S dX1_isJoinedTo_63 ?_
          refine sb_ne (tgt := 116) S dX1_isJoinedTo_64 (by decide) (by omega) (fun _ => ?_) (fun c15 => absurd c15 (by omega))
          refine lv_aload_n hx_ hb_ dX1_isJoinedTo_116 rfl (lv_at hl 3 rfl) ?_
          refine lv_aload_n hx_ hb_ dX1_isJoinedTo_117 rfl (lv_at hl 4 rfl) ?_
          refine sc_getN (ci := 4) (C := RX6) (T := TX6) (n := 8) S hK hV inX6_ (hc13).1 rfl 0 (by decide) (E.2.2.2.2.2.1.1.2.1 _ (List.mem_of_getElem? (i := 4) rfl)) rfl rfl dX1_isJoinedTo_118 ?_
          refine lv_iload hx_ hb_ dX1_isJoinedTo_121 (lv_at hl 0 rfl) ?_
          refine lv_iload hx_ hb_ dX1_isJoinedTo_123 (lv_at hl 2 rfl) ?_
          refine sk_Vv E hV (As := [.ref (a + 1), .int (sI s5), .int (sI z7)]) (rest := []) (kX1_raise l_ G b_ M4 N q (a + 1) wc tk ts te tv ne s5 z7 (g2 568) et (tvS g2) hc11 hc12 ((hc13).2.1) (by omega) (by omega) (by omega) (fun j j1 j2 => ⟨by rw [tvS_v _ s5 j (by omega)]; have j3 := ok_num hok2 s5 j ⟨by omega, by omega⟩ ⟨by omega, by omega⟩; exact ⟨by omega, by omega⟩, by rw [hen.2 z7 j hzr.1 j1 j2 (by omega)]; have j4 := (rcO_r hO).2 z7 j hzr.1 hzr.2 j1 j2; exact ⟨by omega, by omega⟩⟩)) (cwV 3 S.2.2.2.2 gX1_isJoinedTo_X1_raise rfl rfl rfl (by decide +kernel) ⟨Nat.le_of_ble_eq_true rfl, Nat.le_of_ble_eq_true rfl⟩) (ci := 0) hc11 rfl rfl rfl hl.1 (Nat.le_of_ble_eq_true rfl) dX1_isJoinedTo_125 (c1 := 0) (s1 := 0) ⟨⟨rfl, rfl⟩, by decide, by decide⟩ (fun M16 N17 H locs hp18 hV => ?_)
          obtain ⟨hN20, hc21, hf22⟩ := hp18
          rw [hN20] at hV
          have hs23 : stC G M16 a (raN g2 V z7 s5 4) := ra_st hok2 hc13 hc21 (fun x q1 q2 => hf22 x q1 (by omega)) ⟨by omega, by omega⟩ (fun r r1 r2 => hen.2 z7 r hzr.1 r1 r2 (by omega))
          refine si_inc (lv' := [(3, .int (sI (x + 1))), (5, .int (sI s5)), (2, .int (sI (cod (C z7)))), (4, .int (sI z7)), (0, .ref q), (1, .ref a)]) S dX1_isJoinedTo_128 hl (k := 5) rfl (by decide) rfl (fun ls hl => ?_)
          refine lv_goto (tgt := 4) hx_ hb_ dX1_isJoinedTo_131 (by decide) ?_
          exact ih4 (cod (C z7)) (x + 1) (raN g2 V z7 s5 4) M16 _ _ _ (by omega) (by omega) (by rw [jnS_s _ _ _ _ _ (by omega), ← hg, ← hze]; unfold joX; rw [← hs5, if_neg (by omega)]) (fun y a1 b1 => by by_cases e9 : y = x; exact (by rw [e9]; unfold jnU; rw [← hg, ← hze, ← hs5]; omega); exact hnf y a1 (by omega)) (by rw [if_neg (by omega), show x + 1 - 1 = x by omega, ← hze]) hs23 (fun x q0 => ((hf22 x (by omega) (by omega)).trans (hf9 x )).trans (hfr4 x (by omega))) hV (lv_sub hl [4, 5, 2, 0] rfl)
        · refine lv_aload_n hx_ hb_ dX1_isJoinedTo_49 rfl (lv_at hl 4 rfl) ?_
          refine sc_getN (ci := 4) (C := RX6) (T := TX6) (n := 8) S hK hV inX6_ (hc13).1 rfl 0 (by decide) (E.2.2.2.2.2.1.1.2.1 _ (List.mem_of_getElem? (i := 4) rfl)) rfl rfl dX1_isJoinedTo_50 ?_
          refine sk_VP E hV (As := []) (rest := []) (kTf l_ G b_ M4 N (a + 1) 7 (g2 568) 70 (tvS g2) (10 ≤ g2 568) ((hc13).2.1) (by omega) (by omega)) (cwV 0 S.2.2.2.2 gX1_isJoinedTo_X8_isFull rfl rfl rfl (by decide +kernel) ⟨Nat.le_of_ble_eq_true rfl, Nat.le_of_ble_eq_true rfl⟩) (ci := 6) ((hc13).2.1).1 rfl rfl rfl hl.1 (Nat.le_of_ble_eq_true rfl) dX1_isJoinedTo_53 (c1 := 0) (s1 := 0) ⟨⟨rfl, rfl⟩, by decide, by decide⟩ (fun H locs hV => ?_)
          refine sq_eq (tgt := 61) S dX1_isJoinedTo_56 (by decide) (fun c24 => ?_) (fun c24 => ?_)
          · refine lv_iload hx_ hb_ dX1_isJoinedTo_61 (lv_at hl 0 rfl) ?_
            refine si_const S dX1_isJoinedTo_63 ?_
            refine sb_ne (tgt := 116) S dX1_isJoinedTo_64 (by decide) (by omega) (fun c25 => absurd c25 (by omega)) (fun _ => ?_)
            refine lv_aload_n hx_ hb_ dX1_isJoinedTo_67 rfl (lv_at hl 4 rfl) ?_
            refine lv_iload_n hx_ hb_ dX1_isJoinedTo_68 rfl (lv_at hl 1 rfl) ?_
            refine lv_aload_n hx_ hb_ dX1_isJoinedTo_69 rfl (lv_at hl 3 rfl) ?_
            refine sc_get (ci := 0) (C := RX1) (T := TX1) (n := 7) S hK hV inX1_ hc11 rfl 0 (by decide) (S.2.2.2.2 _ (List.mem_of_getElem? (i := 1) rfl)) rfl rfl dX1_isJoinedTo_70 ?_
            refine lv_iload hx_ hb_ dX1_isJoinedTo_73 (lv_at hl 2 rfl) ?_
            refine si_const S dX1_isJoinedTo_75 ?_
            refine sk_VP E hV (As := [.int (sI z7), .int (sI 0)]) (rest := [.int (sI (cod (C z7))), .ref a]) (kTg l_ G b_ M4 N (q + 1) 5 ne 165 et z7 0 (et z7 0) hc12 (by omega) (by omega) (rfl)) (cwV 2 S.2.2.2.2 gX1_isJoinedTo_X8_get rfl rfl rfl (by decide +kernel) ⟨Nat.le_of_ble_eq_true rfl, Nat.le_of_ble_eq_true rfl⟩) (ci := 6) (hc12).1 rfl rfl rfl hl.1 (Nat.le_of_ble_eq_true rfl) dX1_isJoinedTo_76 (c1 := 0) (s1 := 0) ⟨⟨rfl, rfl⟩, by decide, by decide⟩ (fun H locs hV => ?_)
            refine lv_aload_n hx_ hb_ dX1_isJoinedTo_79 rfl (lv_at hl 3 rfl) ?_
            refine sc_get (ci := 0) (C := RX1) (T := TX1) (n := 7) S hK hV inX1_ hc11 rfl 0 (by decide) (S.2.2.2.2 _ (List.mem_of_getElem? (i := 1) rfl)) rfl rfl dX1_isJoinedTo_80 ?_
            refine lv_iload hx_ hb_ dX1_isJoinedTo_83 (lv_at hl 2 rfl) ?_
            refine si_const S dX1_isJoinedTo_85 ?_
            refine sk_VP E hV (As := [.int (sI z7), .int (sI 1)]) (rest := [.int (sI (et z7 0)), .int (sI (cod (C z7))), .ref a]) (kTg l_ G b_ M4 N (q + 1) 5 ne 165 et z7 1 (et z7 1) hc12 (by omega) (by omega) (rfl)) (cwV 2 S.2.2.2.2 gX1_isJoinedTo_X8_get rfl rfl rfl (by decide +kernel) ⟨Nat.le_of_ble_eq_true rfl, Nat.le_of_ble_eq_true rfl⟩) (ci := 6) (hc12).1 rfl rfl rfl hl.1 (Nat.le_of_ble_eq_true rfl) dX1_isJoinedTo_86 (c1 := 0) (s1 := 0) ⟨⟨rfl, rfl⟩, by decide, by decide⟩ (fun H locs hV => ?_)
            refine lv_aload_n hx_ hb_ dX1_isJoinedTo_89 rfl (lv_at hl 3 rfl) ?_
            refine sc_get (ci := 0) (C := RX1) (T := TX1) (n := 7) S hK hV inX1_ hc11 rfl 0 (by decide) (S.2.2.2.2 _ (List.mem_of_getElem? (i := 1) rfl)) rfl rfl dX1_isJoinedTo_90 ?_
            refine lv_iload hx_ hb_ dX1_isJoinedTo_93 (lv_at hl 2 rfl) ?_
            refine si_const S dX1_isJoinedTo_95 ?_
            refine sk_VP E hV (As := [.int (sI z7), .int (sI 2)]) (rest := [.int (sI (et z7 1)), .int (sI (et z7 0)), .int (sI (cod (C z7))), .ref a]) (kTg l_ G b_ M4 N (q + 1) 5 ne 165 et z7 2 (et z7 2) hc12 (by omega) (by omega) (rfl)) (cwV 2 S.2.2.2.2 gX1_isJoinedTo_X8_get rfl rfl rfl (by decide +kernel) ⟨Nat.le_of_ble_eq_true rfl, Nat.le_of_ble_eq_true rfl⟩) (ci := 6) (hc12).1 rfl rfl rfl hl.1 (Nat.le_of_ble_eq_true rfl) dX1_isJoinedTo_96 (c1 := 0) (s1 := 0) ⟨⟨rfl, rfl⟩, by decide, by decide⟩ (fun H locs hV => ?_)
            refine lv_aload_n hx_ hb_ dX1_isJoinedTo_99 rfl (lv_at hl 3 rfl) ?_
            refine sc_get (ci := 0) (C := RX1) (T := TX1) (n := 7) S hK hV inX1_ hc11 rfl 0 (by decide) (S.2.2.2.2 _ (List.mem_of_getElem? (i := 1) rfl)) rfl rfl dX1_isJoinedTo_100 ?_
            refine lv_iload hx_ hb_ dX1_isJoinedTo_103 (lv_at hl 2 rfl) ?_
            refine si_const S dX1_isJoinedTo_105 ?_
            refine sk_VP E hV (As := [.int (sI z7), .int (sI 3)]) (rest := [.int (sI (et z7 2)), .int (sI (et z7 1)), .int (sI (et z7 0)), .int (sI (cod (C z7))), .ref a]) (kTg l_ G b_ M4 N (q + 1) 5 ne 165 et z7 3 (et z7 3) hc12 (by omega) (by omega) (rfl)) (cwV 2 S.2.2.2.2 gX1_isJoinedTo_X8_get rfl rfl rfl (by decide +kernel) ⟨Nat.le_of_ble_eq_true rfl, Nat.le_of_ble_eq_true rfl⟩) (ci := 6) (hc12).1 rfl rfl rfl hl.1 (Nat.le_of_ble_eq_true rfl) dX1_isJoinedTo_106 (c1 := 0) (s1 := 0) ⟨⟨rfl, rfl⟩, by decide, by decide⟩ (fun H locs hV => ?_)
            rw [show et z7 0 = V (4 * z7) from by rw [hen.2 z7 0 hzr.1 (by omega) (by omega) (by omega), Int.add_zero], show et z7 1 = V (4 * z7 + 1) from by rw [hen.2 z7 1 hzr.1 (by omega) (by omega) (by omega)], show et z7 2 = V (4 * z7 + 2) from by rw [hen.2 z7 2 hzr.1 (by omega) (by omega) (by omega)], show et z7 3 = V (4 * z7 + 3) from by rw [hen.2 z7 3 hzr.1 (by omega) (by omega) (by omega)]]
            refine sk_Vi E hV (As := [.int (sI (cod (C z7))), .int (sI (V (4 * z7))), .int (sI (V (4 * z7 + 1))), .int (sI (V (4 * z7 + 2))), .int (sI (V (4 * z7 + 3)))]) (rest := []) (kX6_addStone l_ G b_ M4 N a g2 (C z7) (V (4 * z7)) (V (4 * z7 + 1)) (V (4 * z7 + 2)) (V (4 * z7 + 3)) hc13 (hok2) (by omega)) (cwV 5 S.2.2.2.2 gX1_isJoinedTo_X6_addStone rfl rfl rfl (by decide +kernel) ⟨Nat.le_of_ble_eq_true rfl, Nat.le_of_ble_eq_true rfl⟩) (ci := 4) (hc13).1 rfl rfl rfl hl.1 (Nat.le_of_ble_eq_true rfl) dX1_isJoinedTo_109 (c1 := 0) (s1 := 0) ⟨⟨rfl, rfl⟩, by decide, by decide⟩ (fun z29 M26 N27 H locs hp28 hV => ?_)
            obtain ⟨ez30, hN31, hc32, hf33⟩ := hp28
            rw [hN31] at hV
            rw [ez30]
            refine lv_pop hx_ hb_ dX1_isJoinedTo_112 rfl ?_
            refine lv_goto (tgt := 128) hx_ hb_ dX1_isJoinedTo_113 (by decide) ?_
            refine si_inc (lv' := [(3, .int (sI (x + 1))), (5, .int (sI s5)), (2, .int (sI (cod (C z7)))), (4, .int (sI z7)), (0, .ref q), (1, .ref a)]) S dX1_isJoinedTo_128 hl (k := 5) rfl (by decide) rfl (fun ls hl => ?_)
            refine lv_goto (tgt := 4) hx_ hb_ dX1_isJoinedTo_131 (by decide) ?_
            exact ih4 (cod (C z7)) (x + 1) (comF g2 (C z7) (V (4 * z7)) (V (4 * z7 + 1)) (V (4 * z7 + 2)) (V (4 * z7 + 3))) M26 _ _ _ (by omega) (by omega) (by rw [jnS_s _ _ _ _ _ (by omega), ← hg, ← hze]; unfold joX; rw [← hs5, if_pos (by omega)]) (fun y a1 b1 => by by_cases e9 : y = x; exact (by rw [e9]; unfold jnU; rw [← hg, ← hze, ← hs5]; omega); exact hnf y a1 (by omega)) (by rw [if_neg (by omega), show x + 1 - 1 = x by omega, ← hze]) hc32 (fun x q0 => ((hf33 x (by omega) (by omega)).trans (hf9 x )).trans (hfr4 x (by omega))) hV (lv_sub hl [4, 5, 2, 0] rfl)
          · refine si_const S dX1_isJoinedTo_59 ?_
            exact sr_z E hQ (Or.inl rfl) dX1_isJoinedTo_60 ⟨Nat.le_of_ble_eq_true rfl, Nat.le_of_ble_eq_true rfl⟩ hV (⟨g2, (bI_f (fun h => h x (by omega) (by omega) (by unfold jnU; rw [← hg, ← hze, ← hs5]; omega))).symm, rfl, hc13, fun x q0 => (hf9 x ).trans (hfr4 x (by omega)), hok2, fun h => absurd (by unfold jnU; rw [← hg, ← hze, ← hs5]; omega) (h x (by omega) (by omega))⟩)
  exact L4 _ 0 0 f M _ _ _ (Nat.lt_succ_self _) (by omega) (rfl) (fun y a1 b1 => by omega) (by rw [if_pos rfl]) hst (fun x q0 => rfl) hV (lv_sub hl [2, 3, 1, 0] rfl)
