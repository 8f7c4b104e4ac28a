/-! The class, further on. -/
abbrev rmX10_fee : Room := { frames := 8, cells := 10, slots := 60, locals := 171 }
set_option maxHeartbeats 4000000 in
set_option maxRecDepth 100000 in
theorem kX10_fee (l_ : Launch) (G : sG) (b_ : Nat) (M : sM) (N : Nat) (c : Nat) (kn ch : Int) (f : sF) (s a b : Int) (hc0 : M c = some (xO c kn ch)) (hst : stC G M (c + 1) f) (hkn : knoC G M (c + 54)) (hlt : l_.stackTraces = false) (hok : sOk f) (hr : sR s ∧ sR a ∧ sR b) : xcL l_ yX10_fee wsX10_fee rmX10_fee G b_ M N [.ref c, .int (sI s), .int (sI a), .int (sI b)] (fun z_ M1 N1 => N1 = N ∧ knoC G M1 (c + 54) ∧ (∀ x : Nat, ¬ (c + 54 ≤ x ∧ x < c + 54 + 3) → M1 x = M x) ∧ ((((0 ≤ s ∧ s < f 568) ∧ isDt a ∧ isDt b ∧ a ≤ b) ∧ z_ = isum (dayI b - dayI a + 1) (fdT f s (dayI a + 3652)) / 1000))) (fun E_ M1 N1 => N ≤ N1 ∧ knoC G M1 (c + 54) ∧ (∀ x : Nat, ¬ (c + 54 ≤ x ∧ x < c + 54 + 3) → M1 x = M x) ∧ (((¬ (0 ≤ s ∧ s < f 568)) ∧ E_ = "java/lang/IndexOutOfBoundsException") ∨ (((0 ≤ s ∧ s < f 568) ∧ ¬ (isDt a ∧ isDt b ∧ a ≤ b)) ∧ E_ = "java/lang/IllegalArgumentException"))) := by
  refine xcE.ofL (cc := cX10_fee) (nL := 8) (ret := (some .long)) (by decide) rfl (Nat.le_of_ble_eq_true rfl) ?_
  intro p_ e_ s_ m_ args_ below_ meth_ c_ ls Q hQ E hF_ hxt_ hl
  have E : sE p_ l_ e_ rmX10_fee s_ m_ args_ below_ meth_ c_ cX10_fee 8 wsX10_fee RX10 "fee" (some .long) G b_ M N := E
  have S := E.1
  have hx_ := S.1
  have hb_ := S.2.1
  have hK := E.2.2.2.2.1
  have hV := E.2.2.2.2.2.2
  have hl : lv_has ls 8 [(0, .ref c), (1, .int (sI s)), (2, .int (sI a)), (3, .int (sI b))] := hl
  have inX10_ : ∀ w ∈ wsX100, w ∈ wsX10_fee := fun _ h => List.mem_cons_of_mem _ (List.mem_append_left _ (List.mem_append_left _ (List.mem_append_left _ (List.mem_append_left _ (List.mem_append_left _ (List.mem_append_right _ h))))))
  have inX6_ : ∀ w ∈ wsX60, w ∈ wsX10_fee := fun _ h => List.mem_cons_of_mem _ (List.mem_append_left _ (List.mem_append_left _ (List.mem_append_left _ (List.mem_append_left _ (List.mem_append_right _ h)))))
  have inX8_ : ∀ w ∈ wsX80, w ∈ wsX10_fee := fun _ h => List.mem_cons_of_mem _ (List.mem_append_left _ (List.mem_append_left _ (List.mem_append_left _ (List.mem_append_right _ h))))
  have inX7_ : ∀ w ∈ wsX70, w ∈ wsX10_fee := fun _ h => List.mem_cons_of_mem _ (List.mem_append_left _ (List.mem_append_left _ (List.mem_append_right _ h)))
  have hbN : b_ ≤ N := by have h1 := hV.1.1; have h2 := hV.2.2; omega
  have kn0 := sOk_N hok
  have hkn2 := hkn
  obtain ⟨c0, F0_, H0_, h54, h55, h56⟩ := hkn2
  refine lv_aload_n hx_ hb_ dX10_fee_0 rfl (lv_at hl 0 rfl) ?_
  refine lv_iload_n hx_ hb_ dX10_fee_1 rfl (lv_at hl 1 rfl) ?_
  refine xk_Vv E hF_ hxt_ hQ hV (As := [.int (sI s)]) (rest := []) (kX10_needStone l_ G b_ M N c kn ch f s hc0 hst (by omega) (by omega) (by omega)) (cwV 1 S.2.2.2.2 gX10_fee_X10_needStone rfl rfl rfl (by decide +kernel) ⟨Nat.le_of_ble_eq_true rfl, Nat.le_of_ble_eq_true rfl⟩) (ci := 8) hc0 rfl rfl rfl hl.1 (Nat.le_of_ble_eq_true rfl) dX10_fee_2 (c1 := 1) (s1 := 6) ⟨⟨rfl, rfl⟩, by decide, by decide⟩ ⟨Nat.le_of_ble_eq_true rfl, Nat.le_of_ble_eq_true rfl⟩ ?_ (fun M1 N2 H locs hp3 hV => ?_)
  · rintro E9 M9 N9 ⟨hN5, hf6, hq7⟩
    rcases hq7 with ⟨c8, ee9⟩
    · have hc10 : knoC G M9 (c + 54) := hkn.fr (fun x q8 q9 => hf6 x )
      exact ⟨by omega, hc10, fun x q0 => hf6 x , Or.inl ⟨(by first | exact c8 | omega), ee9⟩⟩
  obtain ⟨hN11, hf12, hq13⟩ := hp3
  rw [hN11] at hV
  rcases hq13 with c14
  · refine lv_iload_n hx_ hb_ dX10_fee_5 rfl (lv_at hl 2 rfl) ?_
    refine lv_iload_n hx_ hb_ dX10_fee_6 rfl (lv_at hl 3 rfl) ?_
    refine xk_Sv E hF_ hxt_ hQ hV (As := [.int (sI a), .int (sI b)]) (rest := []) (kX10_needDates l_ G b_ M1 N a b (by omega) (by omega)) (va_cwS 2 S.2.2.2.2 gX10_fee_X10_needDates rfl rfl rfl (by decide +kernel) ⟨Nat.le_of_ble_eq_true rfl, Nat.le_of_ble_eq_true rfl⟩) rfl rfl hl.1 (Nat.le_of_ble_eq_true rfl) dX10_fee_7 (c1 := 4) (s1 := 24) ⟨⟨rfl, rfl⟩, by decide, by decide⟩ ⟨Nat.le_of_ble_eq_true rfl, Nat.le_of_ble_eq_true rfl⟩ ?_ (fun M15 N16 H locs hp17 hV => ?_)
    · rintro E9 M9 N9 ⟨hN19, hf20, hq21⟩
      rcases hq21 with ⟨c22, ee23⟩
      · have hc24 : knoC G M9 (c + 54) := hkn.fr (fun x q8 q9 => (hf20 x ).trans (hf12 x ))
        exact ⟨by omega, hc24, fun x q0 => (hf20 x ).trans (hf12 x ), Or.inr (⟨(⟨by omega, c22⟩), ee23⟩)⟩
    obtain ⟨hN25, hf26, hq27⟩ := hp17
    rw [hN25] at hV
    rcases hq27 with c28
    · have hda := dayI_r (show isDt a from (show isDt a ∧ isDt b ∧ a ≤ b by assumption).1)
      have hdb := dayI_r (show isDt b from (show isDt a ∧ isDt b ∧ a ≤ b by assumption).2.1)
      have hdab := (dayI_le (isDt_x (show isDt a ∧ isDt b ∧ a ≤ b by assumption).1) (isDt_x (show isDt a ∧ isDt b ∧ a ≤ b by assumption).2.1)).mpr (show isDt a ∧ isDt b ∧ a ≤ b by assumption).2.2
      refine lv_aload_n hx_ hb_ dX10_fee_10 rfl (lv_at hl 0 rfl) ?_
      have hc29 : M15 c = some (xO c kn ch) := ((hf26 c ).trans (hf12 c )).trans hc0
      refine sc_get (ci := 8) (C := RX10) (T := TX10) (n := 11) S hK hV inX10_ hc29 rfl 9 (by decide) (S.2.2.2.2 _ (List.mem_of_getElem? (i := 1) rfl)) rfl rfl dX10_fee_11 ?_
      refine lv_aload_n hx_ hb_ dX10_fee_14 rfl (lv_at hl 0 rfl) ?_
      refine sc_get (ci := 8) (C := RX10) (T := TX10) (n := 11) S hK hV inX10_ hc29 rfl 0 (by decide) (S.2.2.2.2 _ (List.mem_of_getElem? (i := 2) rfl)) rfl rfl dX10_fee_15 ?_
      refine lv_iload_n hx_ hb_ dX10_fee_18 rfl (lv_at hl 1 rfl) ?_
      refine lv_aload_n hx_ hb_ dX10_fee_19 rfl (lv_at hl 0 rfl) ?_
      refine sc_get (ci := 8) (C := RX10) (T := TX10) (n := 11) S hK hV inX10_ hc29 rfl 0 (by decide) (S.2.2.2.2 _ (List.mem_of_getElem? (i := 2) rfl)) rfl rfl dX10_fee_20 ?_
      have hc30 : stC G M15 (c + 1) f := hst.fr (fun x q8 q9 => (hf26 x ).trans (hf12 x ))
      refine sc_getN (ci := 4) (C := RX6) (T := TX6) (n := 8) S hK hV inX6_ (hc30).1 rfl 7 (by decide) (E.2.2.2.2.2.1.1.2.1 _ (List.mem_of_getElem? (i := 14) rfl)) rfl rfl dX10_fee_23 ?_
      have hc31 : M15 (c + 54) = some (sObj 5 [.ref (c + 55), .ref (c + 56), .int (sI c0)]) := ((hf26 (c + 54) ).trans (hf12 (c + 54) )).trans h54
      have hc32 : M15 (c + 55) = some (sArr G 61 F0_) := ((hf26 (c + 55) ).trans (hf12 (c + 55) )).trans h55
      have hc33 : M15 (c + 56) = some (sArr G 61 H0_) := ((hf26 (c + 56) ).trans (hf12 (c + 56) )).trans h56
      refine sk_Vv E hV (As := [.ref (c + 1), .int (sI s), .int (sI (f 571))]) (rest := []) (kX7_lookAt l_ G b_ M15 N (c + 54) (c + 1) c0 F0_ H0_ f s (f 571) hc31 hc32 hc33 hc30 (by omega) (by omega) (by omega)) (cwV 3 S.2.2.2.2 gX10_fee_X7_lookAt rfl rfl rfl (by decide +kernel) ⟨Nat.le_of_ble_eq_true rfl, Nat.le_of_ble_eq_true rfl⟩) (ci := 5) hc31 rfl rfl rfl hl.1 (Nat.le_of_ble_eq_true rfl) dX10_fee_26 (c1 := 4) (s1 := 24) ⟨⟨rfl, rfl⟩, by decide, by decide⟩ (fun M34 N35 H locs hp36 hV => ?_)
      obtain ⟨c938, F939, H940, hN41, hc42, hc43, hc44, hf45, hsk946⟩ := hp36
      rw [hN41] at hV
      have hsk9 := hsk946
      have hseg := seg_eq hsk9.1
      have hskc := hsk9.2.1
      refine sl_const S (z := 0) dX10_fee_29 (by decide) ?_
      refine lv_lstore (lv' := [(4, .long (sL 0)), (0, .ref c), (1, .int (sI s)), (2, .int (sI a)), (3, .int (sI b))]) hx_ hb_ dX10_fee_30 hl (by decide) rfl (fun ls hl => ?_)
      refine si_const S dX10_fee_32 ?_
      refine lv_istore (lv' := [(6, .int (sI 0)), (4, .long (sL 0)), (0, .ref c), (1, .int (sI s)), (2, .int (sI a)), (3, .int (sI b))]) hx_ hb_ dX10_fee_33 hl (by decide) rfl (fun ls hl => ?_)
      have L35 : ∀ (fuel : Nat) (z : Int) (j : Int)  (H : Heap) (locs : List Loc) (ls : Array Slot), ((c938 - j).toNat) < fuel → (0 ≤ j ∧ j ≤ c938) → (z = isum j (fun q => fe1 (H940 q) * dwI F939 c938 q (dayI a) (dayI b))) → sV G b_ M34 N s_ H locs → lv_has ls 8 [(0, .ref c), (1, .int (sI s)), (2, .int (sI a)), (3, .int (sI b)), (4, .long (sL z)), (6, .int (sI j))] → W p_ l_ e_ rmX10_fee s_ m_ args_ below_ meth_ c_ H locs 4 24 Q (F0 m_ 35 ls []) := by
        intro fuel
        induction fuel with
        | zero => intro z j H locs ls hmu; exact absurd hmu (Nat.not_lt_zero _)
        | succ fuel ih35 =>
          intro z j H locs ls hmu35 hv35_0 hz  hV hl
          refine lv_iload hx_ hb_ dX10_fee_35 (lv_at hl 5 rfl) ?_
          refine lv_aload_n hx_ hb_ dX10_fee_37 rfl (lv_at hl 0 rfl) ?_
          have hc47 : M34 c = some (xO c kn ch) := (hf45 c (by omega) (by omega) (by omega)).trans hc29
          refine sc_get (ci := 8) (C := RX10) (T := TX10) (n := 11) S hK hV inX10_ hc47 rfl 9 (by decide) (S.2.2.2.2 _ (List.mem_of_getElem? (i := 1) rfl)) rfl rfl dX10_fee_38 ?_
          refine sk_VP E hV (As := []) (rest := [.int (sI j)]) (kX7_size l_ G b_ M34 N (c + 54) c938 hc42) (cwV 0 S.2.2.2.2 gX10_fee_X7_size rfl rfl rfl (by decide +kernel) ⟨Nat.le_of_ble_eq_true rfl, Nat.le_of_ble_eq_true rfl⟩) (ci := 5) hc42 rfl rfl rfl hl.1 (Nat.le_of_ble_eq_true rfl) dX10_fee_41 (c1 := 4) (s1 := 24) ⟨⟨rfl, rfl⟩, by decide, by decide⟩ (fun H locs hV => ?_)
          refine sb_ge (tgt := 98) S dX10_fee_44 (by decide) (by omega) (fun c48 => ?_) (fun c48 => ?_)
          · refine lv_lload hx_ hb_ dX10_fee_98 (lv_at hl 4 rfl) ?_
            refine lv_aload_n hx_ hb_ dX10_fee_100 rfl (lv_at hl 0 rfl) ?_
            refine sc_get (ci := 8) (C := RX10) (T := TX10) (n := 11) S hK hV inX10_ hc47 rfl 0 (by decide) (S.2.2.2.2 _ (List.mem_of_getElem? (i := 2) rfl)) rfl rfl dX10_fee_101 ?_
            have hc49 : stC G M34 (c + 1) f := hc30.fr (fun x q8 q9 => hf45 x (by omega) (by omega) (by omega))
            refine sc_getN (ci := 4) (C := RX6) (T := TX6) (n := 8) S hK hV inX6_ (hc49).1 rfl 0 (by decide) (E.2.2.2.2.2.1.1.2.1 _ (List.mem_of_getElem? (i := 3) rfl)) rfl rfl dX10_fee_104 ?_
            refine lv_iload_n hx_ hb_ dX10_fee_107 rfl (lv_at hl 1 rfl) ?_
            refine si_const S dX10_fee_108 ?_
            refine sk_VP E hV (As := [.int (sI s), .int (sI 3)]) (rest := [.long (sL z)]) (kTg l_ G b_ M34 N (c + 2) 7 (f 568) 70 (tvS f) s 3 (f (40 + s)) ((hc49).2.1) (by omega) (by omega) (tvS_3 f s)) (cwV 2 S.2.2.2.2 gX10_fee_X8_get rfl rfl rfl (by decide +kernel) ⟨Nat.le_of_ble_eq_true rfl, Nat.le_of_ble_eq_true rfl⟩) (ci := 6) ((hc49).2.1).1 rfl rfl rfl hl.1 (Nat.le_of_ble_eq_true rfl) dX10_fee_109 (c1 := 4) (s1 := 24) ⟨⟨rfl, rfl⟩, by decide, by decide⟩ (fun H locs hV => ?_)
            have kn50 : 0 ≤ f (40 + s) ∧ f (40 + s) ≤ 10000 := (sOk_S hok s (by omega) (by omega)).2.2.2.2.1
            refine sl_i2l S dX10_fee_112 (by omega) ?_
            have hvs := (sOk_S hok s (by omega) (by omega)).2.2.2.2.1
            have hfe := fe_r (F := F939) (c := c938) (fun q u v => (hsk9.2.2.2 q u v).2) (a := dayI a) (b := dayI b) (by omega) j (by omega)
            rw [← hz] at hfe
            have hzv : 0 * 0 ≤ z * f (40 + s) := Int.mul_le_mul hfe.1 hvs.1 (by omega) hfe.1
            have hzw : z * f (40 + s) ≤ 657438000 * 10000 := Int.mul_le_mul (by omega) hvs.2 hvs.1 (by omega)
            refine sl_mul S dX10_fee_113 ?_
            refine sl_ldc2 S (1000) (S.2.2.2.2 _ (List.mem_of_getElem? (i := 3) rfl)) (by decide) dX10_fee_114 ?_
            refine sl_div S dX10_fee_117 (by omega) ?_
            exact xr_l E hQ dX10_fee_118 ⟨Nat.le_of_ble_eq_true rfl, Nat.le_of_ble_eq_true rfl⟩ hV (⟨rfl, ⟨_, _, _, hc42, hc43, hc44⟩, fun x q0 => ((hf45 x (by omega) (by omega) (by omega)).trans (hf26 x )).trans (hf12 x ), ⟨(⟨by omega, by assumption⟩), by rw [fe_s hsk9 (by omega) hdab, hz, show j = c938 by omega, Int.mul_comm]⟩⟩)
          · refine lv_aload_n hx_ hb_ dX10_fee_47 rfl (lv_at hl 0 rfl) ?_
            refine sc_get (ci := 8) (C := RX10) (T := TX10) (n := 11) S hK hV inX10_ hc47 rfl 9 (by decide) (S.2.2.2.2 _ (List.mem_of_getElem? (i := 1) rfl)) rfl rfl dX10_fee_48 ?_
            refine lv_iload hx_ hb_ dX10_fee_51 (lv_at hl 5 rfl) ?_
            refine sk_VP E hV (As := [.int (sI j)]) (rest := []) (kX7_handOf l_ G b_ M34 N (c + 54) c938 H940 j hc42 hc44 (by omega)) (cwV 1 S.2.2.2.2 gX10_fee_X7_handOf rfl rfl rfl (by decide +kernel) ⟨Nat.le_of_ble_eq_true rfl, Nat.le_of_ble_eq_true rfl⟩) (ci := 5) hc42 rfl rfl rfl hl.1 (Nat.le_of_ble_eq_true rfl) dX10_fee_53 (c1 := 4) (s1 := 24) ⟨⟨rfl, rfl⟩, by decide, by decide⟩ (fun H locs hV => ?_)
            refine lv_istore (lv' := [(7, .int (sI (H940 j))), (0, .ref c), (1, .int (sI s)), (2, .int (sI a)), (3, .int (sI b)), (4, .long (sL z)), (6, .int (sI j))]) hx_ hb_ dX10_fee_56 hl (by decide) rfl (fun ls hl => ?_)
            have hHj := (hsk9.2.2.2 j (by omega) (by omega)).2
            refine lv_iload hx_ hb_ dX10_fee_58 (lv_at hl 0 rfl) ?_
            refine si_bipush S dX10_fee_60 (by decide) ?_
            refine sb_eq (tgt := 92) S dX10_fee_62 (by decide) (by omega) (fun c51 => ?_) (fun c51 => ?_)
            · refine si_inc (lv' := [(6, .int (sI (j + 1))), (7, .int (sI (H940 j))), (0, .ref c), (1, .int (sI s)), (2, .int (sI a)), (3, .int (sI b)), (4, .long (sL z))]) S dX10_fee_92 hl (k := 6) rfl (by decide) rfl (fun ls hl => ?_)
              refine lv_goto (tgt := 35) hx_ hb_ dX10_fee_95 (by decide) ?_
              exact ih35 z (j + 1) _ _ _ (by omega) (by omega) (by rw [isum_s _ (by omega), ← hz]; show _ = z + fe1 (H940 j) * dwI F939 c938 j (dayI a) (dayI b); unfold fe1; rw [if_pos (by omega), Int.zero_mul, Int.add_zero]) hV (lv_sub hl [2, 3, 4, 5, 6, 0] rfl)
            · refine lv_lload hx_ hb_ dX10_fee_65 (lv_at hl 5 rfl) ?_
              refine lv_iload hx_ hb_ dX10_fee_67 (lv_at hl 0 rfl) ?_
              refine sl_i2l S dX10_fee_69 (by omega) ?_
              refine lv_aload_n hx_ hb_ dX10_fee_70 rfl (lv_at hl 1 rfl) ?_
              refine sc_get (ci := 8) (C := RX10) (T := TX10) (n := 11) S hK hV inX10_ hc47 rfl 9 (by decide) (S.2.2.2.2 _ (List.mem_of_getElem? (i := 1) rfl)) rfl rfl dX10_fee_71 ?_
              refine lv_iload hx_ hb_ dX10_fee_74 (lv_at hl 6 rfl) ?_
              refine lv_iload_n hx_ hb_ dX10_fee_76 rfl (lv_at hl 3 rfl) ?_
              refine sk_SP E hV (As := [.int (sI a)]) (rest := [.int (sI j), .ref (c + 54), .long (sL (H940 j)), .long (sL z)]) (kX0_dayOf l_ G b_ M34 N a (by omega)) (va_cwS 1 S.2.2.2.2 gX10_fee_X0_dayOf rfl rfl rfl (by decide +kernel) ⟨Nat.le_of_ble_eq_true rfl, Nat.le_of_ble_eq_true rfl⟩) rfl rfl hl.1 (Nat.le_of_ble_eq_true rfl) dX10_fee_77 (c1 := 4) (s1 := 24) ⟨⟨rfl, rfl⟩, by decide, by decide⟩ (fun H locs hV => ?_)
              refine lv_iload_n hx_ hb_ dX10_fee_80 rfl (lv_at hl 4 rfl) ?_
              refine sk_SP E hV (As := [.int (sI b)]) (rest := [.int (sI (dayI a)), .int (sI j), .ref (c + 54), .long (sL (H940 j)), .long (sL z)]) (kX0_dayOf l_ G b_ M34 N b (by omega)) (va_cwS 1 S.2.2.2.2 gX10_fee_X0_dayOf rfl rfl rfl (by decide +kernel) ⟨Nat.le_of_ble_eq_true rfl, Nat.le_of_ble_eq_true rfl⟩) rfl rfl hl.1 (Nat.le_of_ble_eq_true rfl) dX10_fee_81 (c1 := 4) (s1 := 24) ⟨⟨rfl, rfl⟩, by decide, by decide⟩ (fun H locs hV => ?_)
              refine sk_VP E hV (As := [.int (sI j), .int (sI (dayI a)), .int (sI (dayI b))]) (rest := [.long (sL (H940 j)), .long (sL z)]) (kX7_daysWithin l_ G b_ M34 N (c + 54) c938 F939 H940 (fun x => hnd f s x (f 571)) j (dayI a) (dayI b) hc42 hc43 hc44 (hsk9) (by omega) (by omega)) (cwV 3 S.2.2.2.2 gX10_fee_X7_daysWithin rfl rfl rfl (by decide +kernel) ⟨Nat.le_of_ble_eq_true rfl, Nat.le_of_ble_eq_true rfl⟩) (ci := 5) hc42 rfl rfl rfl hl.1 (Nat.le_of_ble_eq_true rfl) dX10_fee_84 (c1 := 4) (s1 := 24) ⟨⟨rfl, rfl⟩, by decide, by decide⟩ (fun H locs hV => ?_)
              have hdw := dw_r (F := F939) (c := c938) (q := j) hdab
              refine sl_i2l S dX10_fee_87 (by omega) ?_
              refine sl_mul S dX10_fee_88 ?_
              refine sl_add S dX10_fee_89 ?_
              refine lv_lstore (lv' := [(4, .long (sL (z + ((H940 j) * (dwI F939 c938 j (dayI a) (dayI b)))))), (7, .int (sI (H940 j))), (0, .ref c), (1, .int (sI s)), (2, .int (sI a)), (3, .int (sI b)), (6, .int (sI j))]) hx_ hb_ dX10_fee_90 hl (by decide) rfl (fun ls hl => ?_)
              refine si_inc (lv' := [(6, .int (sI (j + 1))), (4, .long (sL (z + ((H940 j) * (dwI F939 c938 j (dayI a) (dayI b)))))), (7, .int (sI (H940 j))), (0, .ref c), (1, .int (sI s)), (2, .int (sI a)), (3, .int (sI b))]) S dX10_fee_92 hl (k := 6) rfl (by decide) rfl (fun ls hl => ?_)
              refine lv_goto (tgt := 35) hx_ hb_ dX10_fee_95 (by decide) ?_
              exact ih35 (z + ((H940 j) * (dwI F939 c938 j (dayI a) (dayI b)))) (j + 1) _ _ _ (by omega) (by omega) (by rw [isum_s _ (by omega), ← hz]; show _ = z + fe1 (H940 j) * dwI F939 c938 j (dayI a) (dayI b); unfold fe1; rw [if_neg (by omega)]) hV (lv_sub hl [3, 4, 5, 6, 1, 0] rfl)
      exact L35 _ 0 0 _ _ _ (Nat.lt_succ_self _) (by omega) (rfl) hV (lv_sub hl [2, 3, 4, 5, 1, 0] rfl)

abbrev rmX10_inHand : Room := { frames := 7, cells := 10, slots := 60, locals := 146 }
set_option maxHeartbeats 4000000 in
set_option maxRecDepth 100000 in
theorem kX10_inHand (l_ : Launch) (G : sG) (b_ : Nat) (M : sM) (N : Nat) (c : Nat) (kn ch : Int) (f : sF) (h d : Int) (hc0 : M c = some (xO c kn ch)) (hst : stC G M (c + 1) f) (hkn : knoC G M (c + 54)) (hlt : l_.stackTraces = false) (hok : sOk f) (hr : sR h ∧ sR d) : xcI l_ yX10_inHand wsX10_inHand rmX10_inHand G b_ M N [.ref c, .int (sI h), .int (sI d)] (fun z_ M1 N1 => N1 = N ∧ knoC G M1 (c + 54) ∧ (∀ x : Nat, ¬ (c + 54 ≤ x ∧ x < c + 54 + 3) → M1 x = M x) ∧ ((((0 ≤ h ∧ h ≤ 6) ∧ isDt d) ∧ z_ = isum (f 568) (ihT f h (dayI d + 3652))))) (fun E_ M1 N1 => N ≤ N1 ∧ knoC G M1 (c + 54) ∧ (∀ x : Nat, ¬ (c + 54 ≤ x ∧ x < c + 54 + 3) → M1 x = M x) ∧ (((¬ ((0 ≤ h ∧ h ≤ 6) ∧ isDt d)) ∧ E_ = "java/lang/IllegalArgumentException"))) := by
  refine xcE.ofI (cc := cX10_inHand) (nL := 5) (ret := (some .int)) (by decide) rfl (Nat.le_of_ble_eq_true rfl) ?_
  intro p_ e_ s_ m_ args_ below_ meth_ c_ ls Q hQ E hF_ hxt_ hl
  have E : sE p_ l_ e_ rmX10_inHand s_ m_ args_ below_ meth_ c_ cX10_inHand 5 wsX10_inHand RX10 "inHand" (some .int) G b_ M N := E
  have S := E.1
  have hx_ := S.1
  have hb_ := S.2.1
  have hK := E.2.2.2.2.1
  have hV := E.2.2.2.2.2.2
  have hl : lv_has ls 5 [(0, .ref c), (1, .int (sI h)), (2, .int (sI d))] := hl
  have inX10_ : ∀ w ∈ wsX100, w ∈ wsX10_inHand := fun _ h => List.mem_cons_of_mem _ (List.mem_append_left _ (List.mem_append_left _ (List.mem_append_left _ (List.mem_append_left _ (List.mem_append_right _ h)))))
  have inX6_ : ∀ w ∈ wsX60, w ∈ wsX10_inHand := fun _ h => List.mem_cons_of_mem _ (List.mem_append_left _ (List.mem_append_left _ (List.mem_append_left _ (List.mem_append_right _ h))))
  have inX8_ : ∀ w ∈ wsX80, w ∈ wsX10_inHand := fun _ h => List.mem_cons_of_mem _ (List.mem_append_left _ (List.mem_append_left _ (List.mem_append_right _ h)))
  have inX7_ : ∀ w ∈ wsX70, w ∈ wsX10_inHand := fun _ h => List.mem_cons_of_mem _ (List.mem_append_left _ (List.mem_append_right _ h))
  have hbN : b_ ≤ N := by have h1 := hV.1.1; have h2 := hV.2.2; omega
  have kn0 := sOk_N hok
  have hkn2 := hkn
  obtain ⟨c0, F0_, H0_, h54, h55, h56⟩ := hkn2
  refine lv_iload_n hx_ hb_ dX10_inHand_0 rfl (lv_at hl 1 rfl) ?_
  refine si_const S dX10_inHand_1 ?_
  refine si_bipush S dX10_inHand_2 (by decide) ?_
  refine xk_Sv E hF_ hxt_ hQ hV (As := [.int (sI h), .int (sI 0), .int (sI 6)]) (rest := []) (kX10_needRange l_ G b_ M N h 0 6 (by omega) (by omega)) (va_cwS 3 S.2.2.2.2 gX10_inHand_X10_needRange rfl rfl rfl (by decide +kernel) ⟨Nat.le_of_ble_eq_true rfl, Nat.le_of_ble_eq_true rfl⟩) rfl rfl hl.1 (Nat.le_of_ble_eq_true rfl) dX10_inHand_4 (c1 := 1) (s1 := 6) ⟨⟨rfl, rfl⟩, by decide, by decide⟩ ⟨Nat.le_of_ble_eq_true rfl, Nat.le_of_ble_eq_true rfl⟩ ?_ (fun M1 N2 H locs hp3 hV => ?_)
  · rintro E9 M9 N9 ⟨hN5, hf6, hq7⟩
    rcases hq7 with ⟨c8, ee9⟩
    · have hc10 : knoC G M9 (c + 54) := hkn.fr (fun x q8 q9 => hf6 x )
      exact ⟨by omega, hc10, fun x q0 => hf6 x , ⟨(fun h => c8 h.1), ee9⟩⟩
  obtain ⟨hN11, hf12, hq13⟩ := hp3
  rw [hN11] at hV
  rcases hq13 with c14
  · refine lv_iload_n hx_ hb_ dX10_inHand_7 rfl (lv_at hl 2 rfl) ?_
    refine xk_Sv E hF_ hxt_ hQ hV (As := [.int (sI d)]) (rest := []) (kX10_needDate l_ G b_ M1 N d (by omega) (by omega)) (va_cwS 1 S.2.2.2.2 gX10_inHand_X10_needDate rfl rfl rfl (by decide +kernel) ⟨Nat.le_of_ble_eq_true rfl, Nat.le_of_ble_eq_true rfl⟩) rfl rfl hl.1 (Nat.le_of_ble_eq_true rfl) dX10_inHand_8 (c1 := 2) (s1 := 12) ⟨⟨rfl, rfl⟩, by decide, by decide⟩ ⟨Nat.le_of_ble_eq_true rfl, Nat.le_of_ble_eq_true rfl⟩ ?_ (fun M15 N16 H locs hp17 hV => ?_)
    · rintro E9 M9 N9 ⟨hN19, hf20, hq21⟩
      rcases hq21 with ⟨c22, ee23⟩
      · have hc24 : knoC G M9 (c + 54) := hkn.fr (fun x q8 q9 => (hf20 x ).trans (hf12 x ))
        exact ⟨by omega, hc24, fun x q0 => (hf20 x ).trans (hf12 x ), ⟨(fun h => c22 h.2), ee23⟩⟩
    obtain ⟨hN25, hf26, hq27⟩ := hp17
    rw [hN25] at hV
    rcases hq27 with c28
    · refine si_const S dX10_inHand_11 ?_
      refine lv_istore_n (lv' := [(3, .int (sI 0)), (0, .ref c), (1, .int (sI h)), (2, .int (sI d))]) hx_ hb_ dX10_inHand_12 rfl hl (by decide) rfl (fun ls hl => ?_)
      refine si_const S dX10_inHand_13 ?_
      refine lv_istore (lv' := [(4, .int (sI 0)), (3, .int (sI 0)), (0, .ref c), (1, .int (sI h)), (2, .int (sI d))]) hx_ hb_ dX10_inHand_14 hl (by decide) rfl (fun ls hl => ?_)
      have L16 : ∀ (fuel : Nat) (z : Int) (j : Int) (c1 : Int) (F1 : Int → Int) (H1 : Int → Int) (Ml16 : sM) (H : Heap) (locs : List Loc) (ls : Array Slot), ((f 568 - j).toNat) < fuel → (0 ≤ j ∧ j ≤ f 568 ∧ 0 ≤ z ∧ z ≤ j) → (z = isum j (ihT f h (dayI d + 3652))) → (Ml16 (c + 54) = some (sObj 5 [.ref (c + 55), .ref (c + 56), .int (sI c1)])) → (Ml16 (c + 55) = some (sArr G 61 F1)) → (Ml16 (c + 56) = some (sArr G 61 H1)) → (∀ x : Nat, ¬ (c + 54 ≤ x ∧ x < c + 54 + 3) → Ml16 x = M15 x) → sV G b_ Ml16 N s_ H locs → lv_has ls 5 [(0, .ref c), (1, .int (sI h)), (2, .int (sI d)), (3, .int (sI z)), (4, .int (sI j))] → W p_ l_ e_ rmX10_inHand s_ m_ args_ below_ meth_ c_ H locs 2 12 Q (F0 m_ 16 ls []) := by
        intro fuel
        induction fuel with
        | zero => intro z j c1 F1 H1 Ml16 H locs ls hmu; exact absurd hmu (Nat.not_lt_zero _)
        | succ fuel ih16 =>
          intro z j c1 F1 H1 Ml16 H locs ls hmu16 hv16_0 hz hm16_0 hm16_1 hm16_2 hfr16 hV hl
          refine lv_iload hx_ hb_ dX10_inHand_16 (lv_at hl 4 rfl) ?_
          refine lv_aload_n hx_ hb_ dX10_inHand_18 rfl (lv_at hl 0 rfl) ?_
          have hc29 : Ml16 c = some (xO c kn ch) := (((hfr16 c (by omega)).trans (hf26 c )).trans (hf12 c )).trans hc0
          refine sc_get (ci := 8) (C := RX10) (T := TX10) (n := 11) S hK hV inX10_ hc29 rfl 0 (by decide) (S.2.2.2.2 _ (List.mem_of_getElem? (i := 1) rfl)) rfl rfl dX10_inHand_19 ?_
          have hc30 : stC G Ml16 (c + 1) f := hst.fr (fun x q8 q9 => ((hfr16 x (by omega)).trans (hf26 x )).trans (hf12 x ))
          refine sc_getN (ci := 4) (C := RX6) (T := TX6) (n := 8) S hK hV inX6_ (hc30).1 rfl 0 (by decide) (E.2.2.2.2.2.1.1.2.1 _ (List.mem_of_getElem? (i := 3) rfl)) rfl rfl dX10_inHand_22 ?_
          refine sk_VP E hV (As := []) (rest := [.int (sI j)]) (kTs l_ G b_ Ml16 N (c + 2) 7 (f 568) 70 (tvS f) ((hc30).2.1)) (cwV 0 S.2.2.2.2 gX10_inHand_X8_size rfl rfl rfl (by decide +kernel) ⟨Nat.le_of_ble_eq_true rfl, Nat.le_of_ble_eq_true rfl⟩) (ci := 6) ((hc30).2.1).1 rfl rfl rfl hl.1 (Nat.le_of_ble_eq_true rfl) dX10_inHand_25 (c1 := 2) (s1 := 12) ⟨⟨rfl, rfl⟩, by decide, by decide⟩ (fun H locs hV => ?_)
          refine sb_ge (tgt := 72) S dX10_inHand_28 (by decide) (by omega) (fun c31 => ?_) (fun c31 => ?_)
          · refine lv_iload_n hx_ hb_ dX10_inHand_72 rfl (lv_at hl 3 rfl) ?_
            exact xr_i E hQ dX10_inHand_73 ⟨Nat.le_of_ble_eq_true rfl, Nat.le_of_ble_eq_true rfl⟩ hV (⟨rfl, ⟨_, _, _, hm16_0, hm16_1, hm16_2⟩, fun x q0 => ((hfr16 x (by omega)).trans (hf26 x )).trans (hf12 x ), ⟨(⟨by omega, by assumption⟩), by rw [hz, show j = f 568 by omega]⟩⟩)
          · refine lv_aload_n hx_ hb_ dX10_inHand_31 rfl (lv_at hl 0 rfl) ?_
            refine sc_get (ci := 8) (C := RX10) (T := TX10) (n := 11) S hK hV inX10_ hc29 rfl 9 (by decide) (S.2.2.2.2 _ (List.mem_of_getElem? (i := 2) rfl)) rfl rfl dX10_inHand_32 ?_
            refine lv_aload_n hx_ hb_ dX10_inHand_35 rfl (lv_at hl 0 rfl) ?_
            refine sc_get (ci := 8) (C := RX10) (T := TX10) (n := 11) S hK hV inX10_ hc29 rfl 0 (by decide) (S.2.2.2.2 _ (List.mem_of_getElem? (i := 1) rfl)) rfl rfl dX10_inHand_36 ?_
            refine lv_iload hx_ hb_ dX10_inHand_39 (lv_at hl 4 rfl) ?_
            refine lv_aload_n hx_ hb_ dX10_inHand_41 rfl (lv_at hl 0 rfl) ?_
            refine sc_get (ci := 8) (C := RX10) (T := TX10) (n := 11) S hK hV inX10_ hc29 rfl 0 (by decide) (S.2.2.2.2 _ (List.mem_of_getElem? (i := 1) rfl)) rfl rfl dX10_inHand_42 ?_
            refine sc_getN (ci := 4) (C := RX6) (T := TX6) (n := 8) S hK hV inX6_ (hc30).1 rfl 7 (by decide) (E.2.2.2.2.2.1.1.2.1 _ (List.mem_of_getElem? (i := 14) rfl)) rfl rfl dX10_inHand_45 ?_
            refine sk_Vv E hV (As := [.ref (c + 1), .int (sI j), .int (sI (f 571))]) (rest := []) (kX7_lookAt l_ G b_ Ml16 N (c + 54) (c + 1) c1 F1 H1 f j (f 571) hm16_0 hm16_1 hm16_2 hc30 (by omega) (by omega) (by omega)) (cwV 3 S.2.2.2.2 gX10_inHand_X7_lookAt rfl rfl rfl (by decide +kernel) ⟨Nat.le_of_ble_eq_true rfl, Nat.le_of_ble_eq_true rfl⟩) (ci := 5) hm16_0 rfl rfl rfl hl.1 (Nat.le_of_ble_eq_true rfl) dX10_inHand_48 (c1 := 2) (s1 := 12) ⟨⟨rfl, rfl⟩, by decide, by decide⟩ (fun M32 N33 H locs hp34 hV => ?_)
            obtain ⟨c936, F937, H938, hN39, hc40, hc41, hc42, hf43, hsk944⟩ := hp34
            rw [hN39] at hV
            have hsk9 := hsk944
            have hseg := seg_eq hsk9.1
            have hskc := hsk9.2.1
            refine lv_aload_n hx_ hb_ dX10_inHand_51 rfl (lv_at hl 0 rfl) ?_
            have hc45 : M32 c = some (xO c kn ch) := (hf43 c (by omega) (by omega) (by omega)).trans hc29
            refine sc_get (ci := 8) (C := RX10) (T := TX10) (n := 11) S hK hV inX10_ hc45 rfl 9 (by decide) (S.2.2.2.2 _ (List.mem_of_getElem? (i := 2) rfl)) rfl rfl dX10_inHand_52 ?_
            refine lv_iload_n hx_ hb_ dX10_inHand_55 rfl (lv_at hl 2 rfl) ?_
            refine sk_VP E hV (As := [.int (sI d)]) (rest := []) (kX7_handAt l_ G b_ M32 N (c + 54) c936 F937 H938 (fun x => hnd f j x (f 571)) d hc40 hc41 hc42 (hsk9) (by assumption)) (cwV 1 S.2.2.2.2 gX10_inHand_X7_handAt rfl rfl rfl (by decide +kernel) ⟨Nat.le_of_ble_eq_true rfl, Nat.le_of_ble_eq_true rfl⟩) (ci := 5) hc40 rfl rfl rfl hl.1 (Nat.le_of_ble_eq_true rfl) dX10_inHand_56 (c1 := 2) (s1 := 12) ⟨⟨rfl, rfl⟩, by decide, by decide⟩ (fun H locs hV => ?_)
            have hhr := hnd_r hok j (dayI d + 3652) (f 571)
            show W _ _ _ _ _ _ _ _ _ _ _ _ _ _ _ (F0 _ _ _ [.int (sI (hnd f j (dayI d + 3652) (f 571)))])
            refine lv_iload_n hx_ hb_ dX10_inHand_59 rfl (lv_at hl 1 rfl) ?_
            refine sb_ne (tgt := 66) S dX10_inHand_60 (by decide) (by omega) (fun c46 => ?_) (fun c46 => ?_)
            · refine si_inc (lv' := [(4, .int (sI (j + 1))), (0, .ref c), (1, .int (sI h)), (2, .int (sI d)), (3, .int (sI z))]) S dX10_inHand_66 hl (k := 4) rfl (by decide) rfl (fun ls hl => ?_)
              refine lv_goto (tgt := 16) hx_ hb_ dX10_inHand_69 (by decide) ?_
              exact ih16 z (j + 1) c936 F937 H938 M32 _ _ _ (by omega) (by omega) (by rw [isum_s _ (by omega), ← hz]; show _ = z + (if hnd f j (dayI d + 3652) (f 571) = h then 1 else 0); rw [if_neg (by omega), Int.add_zero]) hc40 hc41 hc42 (fun x q0 => (hf43 x (by omega) (by omega) (by omega)).trans (hfr16 x (by omega))) hV (lv_sub hl [1, 2, 3, 4, 0] rfl)
            · refine si_inc (lv' := [(3, .int (sI (z + 1))), (0, .ref c), (1, .int (sI h)), (2, .int (sI d)), (4, .int (sI j))]) S dX10_inHand_63 hl (k := 3) rfl (by decide) rfl (fun ls hl => ?_)
              refine si_inc (lv' := [(4, .int (sI (j + 1))), (3, .int (sI (z + 1))), (0, .ref c), (1, .int (sI h)), (2, .int (sI d))]) S dX10_inHand_66 hl (k := 4) rfl (by decide) rfl (fun ls hl => ?_)
              refine lv_goto (tgt := 16) hx_ hb_ dX10_inHand_69 (by decide) ?_
              exact ih16 (z + 1) (j + 1) c936 F937 H938 M32 _ _ _ (by omega) (by omega) (by rw [isum_s _ (by omega), ← hz]; show _ = z + (if hnd f j (dayI d + 3652) (f 571) = h then 1 else 0); rw [if_pos (by omega)]) hc40 hc41 hc42 (fun x q0 => (hf43 x (by omega) (by omega) (by omega)).trans (hfr16 x (by omega))) hV (lv_sub hl [2, 3, 4, 1, 0] rfl)
      have hc47 : M15 (c + 54) = some (sObj 5 [.ref (c + 55), .ref (c + 56), .int (sI c0)]) := ((hf26 (c + 54) ).trans (hf12 (c + 54) )).trans h54
      have hc48 : M15 (c + 55) = some (sArr G 61 F0_) := ((hf26 (c + 55) ).trans (hf12 (c + 55) )).trans h55
      have hc49 : M15 (c + 56) = some (sArr G 61 H0_) := ((hf26 (c + 56) ).trans (hf12 (c + 56) )).trans h56
      exact L16 _ 0 0 c0 F0_ H0_ M15 _ _ _ (Nat.lt_succ_self _) (by omega) (rfl) hc47 hc48 hc49 (fun x q0 => rfl) hV (lv_sub hl [2, 3, 4, 1, 0] rfl)
