/-! The class, further on. -/
abbrev rmX10_stayAt : Room := { frames := 7, cells := 10, slots := 60, locals := 146 }
set_option maxHeartbeats 4000000 in
set_option maxRecDepth 100000 in
theorem kX10_stayAt (l_ : Launch) (G : sG) (b_ : Nat) (M : sM) (N : Nat) (c : Nat) (kn ch : Int) (f : sF) (s j v : Int) (hc0 : M c = some (xO c kn ch)) (hst : stC G M (c + 1) f) (hkn : knoC G M (c + 54)) (hlt : l_.stackTraces = false) (hok : sOk f) (hr : sR s ∧ sR j ∧ sR v) : xcI l_ yX10_stayAt wsX10_stayAt rmX10_stayAt G b_ M N [.ref c, .int (sI s), .int (sI j), .int (sI v)] (fun z_ M1 N1 => N1 = N ∧ knoC G M1 (c + 54) ∧ (∀ x : Nat, ¬ (c + 54 ≤ x ∧ x < c + 54 + 3) → M1 x = M x) ∧ ((((0 ≤ s ∧ s < f 568) ∧ (0 ≤ j ∧ j < segC (fun x => hnd f s x (f 571))) ∧ v = 0) ∧ z_ = hnd f s (segD (fun x => hnd f s x (f 571)) j) (f 571)) ∨ (((0 ≤ s ∧ s < f 568) ∧ (0 ≤ j ∧ j < segC (fun x => hnd f s x (f 571))) ∧ v = 1) ∧ z_ = (if j = 0 then -1 else dat (segD (fun x => hnd f s x (f 571)) j))) ∨ (((0 ≤ s ∧ s < f 568) ∧ (0 ≤ j ∧ j < segC (fun x => hnd f s x (f 571))) ∧ v = 2) ∧ z_ = (if j = segC (fun x => hnd f s x (f 571)) - 1 then -1 else dat (segD (fun x => hnd f s x (f 571)) (j + 1) - 1))))) (fun E_ M1 N1 => N ≤ N1 ∧ knoC G M1 (c + 54) ∧ (∀ x : Nat, ¬ (c + 54 ≤ x ∧ x < c + 54 + 3) → M1 x = M x) ∧ (((¬ (0 ≤ s ∧ s < f 568)) ∧ E_ = "java/lang/IndexOutOfBoundsException") ∨ (((0 ≤ s ∧ s < f 568) ∧ ¬ (0 ≤ j ∧ j < segC (fun x => hnd f s x (f 571)))) ∧ E_ = "java/lang/IndexOutOfBoundsException") ∨ (((0 ≤ s ∧ s < f 568) ∧ (0 ≤ j ∧ j < segC (fun x => hnd f s x (f 571))) ∧ ¬ (0 ≤ v ∧ v ≤ 2)) ∧ E_ = "java/lang/IllegalArgumentException"))) := by
  refine xcE.ofI (cc := cX10_stayAt) (nL := 4) (ret := (some .int)) (by decide) rfl (Nat.le_of_ble_eq_true rfl) ?_
  intro p_ e_ s_ m_ args_ below_ meth_ c_ ls Q hQ E hF_ hxt_ hl
  have E : sE p_ l_ e_ rmX10_stayAt s_ m_ args_ below_ meth_ c_ cX10_stayAt 4 wsX10_stayAt RX10 "stayAt" (some .int) G b_ M N := E
  have S := E.1
  have hx_ := S.1
  have hb_ := S.2.1
  have hK := E.2.2.2.2.1
  have hV := E.2.2.2.2.2.2
  have hl : lv_has ls 4 [(0, .ref c), (1, .int (sI s)), (2, .int (sI j)), (3, .int (sI v))] := hl
  have inX10_ : ∀ w ∈ wsX100, w ∈ wsX10_stayAt := fun _ h => List.mem_cons_of_mem _ (List.mem_append_left _ (List.mem_append_left _ (List.mem_append_left _ (List.mem_append_left _ (List.mem_append_left _ (List.mem_append_right _ h))))))
  have inX6_ : ∀ w ∈ wsX60, w ∈ wsX10_stayAt := fun _ h => List.mem_cons_of_mem _ (List.mem_append_left _ (List.mem_append_left _ (List.mem_append_left _ (List.mem_append_left _ (List.mem_append_right _ h)))))
  have inX8_ : ∀ w ∈ wsX80, w ∈ wsX10_stayAt := fun _ h => List.mem_cons_of_mem _ (List.mem_append_left _ (List.mem_append_left _ (List.mem_append_left _ (List.mem_append_right _ h))))
  have inX7_ : ∀ w ∈ wsX70, w ∈ wsX10_stayAt := fun _ h => List.mem_cons_of_mem _ (List.mem_append_left _ (List.mem_append_left _ (List.mem_append_right _ h)))
  have hbN : b_ ≤ N := by have h1 := hV.1.1; have h2 := hV.2.2; omega
  have kn0 := sOk_N hok
  have hkn2 := hkn
  obtain ⟨c0, F0_, H0_, h54, h55, h56⟩ := hkn2
  refine lv_aload_n hx_ hb_ dX10_stayAt_0 rfl (lv_at hl 0 rfl) ?_
  refine lv_iload_n hx_ hb_ dX10_stayAt_1 rfl (lv_at hl 1 rfl) ?_
  refine xk_Vv E hF_ hxt_ hQ hV (As := [.int (sI s)]) (rest := []) (kX10_needStone l_ G b_ M N c kn ch f s hc0 hst (by omega) (by omega) (by omega)) (cwV 1 S.2.2.2.2 gX10_stayAt_X10_needStone rfl rfl rfl (by decide +kernel) ⟨Nat.le_of_ble_eq_true rfl, Nat.le_of_ble_eq_true rfl⟩) (ci := 8) hc0 rfl rfl rfl hl.1 (Nat.le_of_ble_eq_true rfl) dX10_stayAt_2 (c1 := 1) (s1 := 6) ⟨⟨rfl, rfl⟩, by decide, by decide⟩ ⟨Nat.le_of_ble_eq_true rfl, Nat.le_of_ble_eq_true rfl⟩ ?_ (fun M1 N2 H locs hp3 hV => ?_)
  · rintro E9 M9 N9 ⟨hN5, hf6, hq7⟩
    rcases hq7 with ⟨c8, ee9⟩
    · have hc10 : knoC G M9 (c + 54) := hkn.fr (fun x q8 q9 => hf6 x )
      exact ⟨by omega, hc10, fun x q0 => hf6 x , Or.inl ⟨(by first | exact c8 | omega), ee9⟩⟩
  obtain ⟨hN11, hf12, hq13⟩ := hp3
  rw [hN11] at hV
  rcases hq13 with c14
  · refine lv_aload_n hx_ hb_ dX10_stayAt_5 rfl (lv_at hl 0 rfl) ?_
    have hc15 : M1 c = some (xO c kn ch) := (hf12 c ).trans hc0
    refine sc_get (ci := 8) (C := RX10) (T := TX10) (n := 11) S hK hV inX10_ hc15 rfl 9 (by decide) (S.2.2.2.2 _ (List.mem_of_getElem? (i := 3) rfl)) rfl rfl dX10_stayAt_6 ?_
    refine lv_aload_n hx_ hb_ dX10_stayAt_9 rfl (lv_at hl 0 rfl) ?_
    refine sc_get (ci := 8) (C := RX10) (T := TX10) (n := 11) S hK hV inX10_ hc15 rfl 0 (by decide) (S.2.2.2.2 _ (List.mem_of_getElem? (i := 4) rfl)) rfl rfl dX10_stayAt_10 ?_
    refine lv_iload_n hx_ hb_ dX10_stayAt_13 rfl (lv_at hl 1 rfl) ?_
    refine lv_aload_n hx_ hb_ dX10_stayAt_14 rfl (lv_at hl 0 rfl) ?_
    refine sc_get (ci := 8) (C := RX10) (T := TX10) (n := 11) S hK hV inX10_ hc15 rfl 0 (by decide) (S.2.2.2.2 _ (List.mem_of_getElem? (i := 4) rfl)) rfl rfl dX10_stayAt_15 ?_
    have hc16 : stC G M1 (c + 1) f := hst.fr (fun x q8 q9 => hf12 x )
    refine sc_getN (ci := 4) (C := RX6) (T := TX6) (n := 8) S hK hV inX6_ (hc16).1 rfl 7 (by decide) (E.2.2.2.2.2.1.1.2.1 _ (List.mem_of_getElem? (i := 14) rfl)) rfl rfl dX10_stayAt_18 ?_
    have hc17 : M1 (c + 54) = some (sObj 5 [.ref (c + 55), .ref (c + 56), .int (sI c0)]) := (hf12 (c + 54) ).trans h54
    have hc18 : M1 (c + 55) = some (sArr G 61 F0_) := (hf12 (c + 55) ).trans h55
    have hc19 : M1 (c + 56) = some (sArr G 61 H0_) := (hf12 (c + 56) ).trans h56
    refine sk_Vv E hV (As := [.ref (c + 1), .int (sI s), .int (sI (f 571))]) (rest := []) (kX7_lookAt l_ G b_ M1 N (c + 54) (c + 1) c0 F0_ H0_ f s (f 571) hc17 hc18 hc19 hc16 (by omega) (by omega) (by omega)) (cwV 3 S.2.2.2.2 gX10_stayAt_X7_lookAt rfl rfl rfl (by decide +kernel) ⟨Nat.le_of_ble_eq_true rfl, Nat.le_of_ble_eq_true rfl⟩) (ci := 5) hc17 rfl rfl rfl hl.1 (Nat.le_of_ble_eq_true rfl) dX10_stayAt_21 (c1 := 1) (s1 := 6) ⟨⟨rfl, rfl⟩, by decide, by decide⟩ (fun M20 N21 H locs hp22 hV => ?_)
    obtain ⟨c924, F925, H926, hN27, hc28, hc29, hc30, hf31, hsk932⟩ := hp22
    rw [hN27] at hV
    have hsk9 := hsk932
    have hseg := seg_eq hsk9.1
    have hskc := hsk9.2.1
    refine lv_iload_n hx_ hb_ dX10_stayAt_24 rfl (lv_at hl 2 rfl) ?_
    have hsg1 := hseg.1
    refine sz_lt (tgt := 39) S dX10_stayAt_25 (by decide) (by omega) (fun c33 => ?_) (fun c33 => ?_)
    · exact xt_W (own := RX10) (rest := []) E hF_ hxt_ hQ hlt (ik := 173) (is := 269) (ic := 177) (cls := "java/lang/IndexOutOfBoundsException") (text := "no such stay") (by decide +kernel) xg_IO (List.mem_of_getElem? (i := 1) rfl) (List.mem_of_getElem? (i := 2) rfl) (fun _ h => List.mem_cons_of_mem _ (List.mem_append_left _ (List.mem_append_right _ h))) (List.mem_of_getElem? (i := 16) rfl) hl.1 dX10_stayAt_39 dX10_stayAt_42 dX10_stayAt_43 dX10_stayAt_46 dX10_stayAt_49 ⟨Nat.le_of_ble_eq_true rfl, Nat.le_of_ble_eq_true rfl, Nat.le_of_ble_eq_true rfl, Nat.le_of_ble_eq_true rfl⟩ ⟨Nat.le_of_ble_eq_true rfl, Nat.le_of_ble_eq_true rfl⟩ hV (fun N9 h9 => ⟨by omega, ⟨_, _, _, hc28, hc29, hc30⟩, fun x q0 => (hf31 x (by omega) (by omega) (by omega)).trans (hf12 x ), Or.inr (Or.inl ⟨(by first | omega | assumption), rfl⟩)⟩)
    · refine lv_iload_n hx_ hb_ dX10_stayAt_28 rfl (lv_at hl 2 rfl) ?_
      refine lv_aload_n hx_ hb_ dX10_stayAt_29 rfl (lv_at hl 0 rfl) ?_
      have hc34 : M20 c = some (xO c kn ch) := (hf31 c (by omega) (by omega) (by omega)).trans hc15
      refine sc_get (ci := 8) (C := RX10) (T := TX10) (n := 11) S hK hV inX10_ hc34 rfl 9 (by decide) (S.2.2.2.2 _ (List.mem_of_getElem? (i := 3) rfl)) rfl rfl dX10_stayAt_30 ?_
      refine sk_VP E hV (As := []) (rest := [.int (sI j)]) (kX7_size l_ G b_ M20 N (c + 54) c924 hc28) (cwV 0 S.2.2.2.2 gX10_stayAt_X7_size rfl rfl rfl (by decide +kernel) ⟨Nat.le_of_ble_eq_true rfl, Nat.le_of_ble_eq_true rfl⟩) (ci := 5) hc28 rfl rfl rfl hl.1 (Nat.le_of_ble_eq_true rfl) dX10_stayAt_33 (c1 := 1) (s1 := 6) ⟨⟨rfl, rfl⟩, by decide, by decide⟩ (fun H locs hV => ?_)
      refine sb_lt (tgt := 50) S dX10_stayAt_36 (by decide) (by omega) (fun c35 => ?_) (fun c35 => ?_)
      · refine lv_iload_n hx_ hb_ dX10_stayAt_50 rfl (lv_at hl 3 rfl) ?_
        refine si_const S dX10_stayAt_51 ?_
        refine si_const S dX10_stayAt_52 ?_
        refine xk_Sv E hF_ hxt_ hQ hV (As := [.int (sI v), .int (sI 0), .int (sI 2)]) (rest := []) (kX10_needRange l_ G b_ M20 N v 0 2 (by omega) (by omega)) (va_cwS 3 S.2.2.2.2 gX10_stayAt_X10_needRange rfl rfl rfl (by decide +kernel) ⟨Nat.le_of_ble_eq_true rfl, Nat.le_of_ble_eq_true rfl⟩) rfl rfl hl.1 (Nat.le_of_ble_eq_true rfl) dX10_stayAt_53 (c1 := 2) (s1 := 12) ⟨⟨rfl, rfl⟩, by decide, by decide⟩ ⟨Nat.le_of_ble_eq_true rfl, Nat.le_of_ble_eq_true rfl⟩ ?_ (fun M36 N37 H locs hp38 hV => ?_)
        · rintro E9 M9 N9 ⟨hN40, hf41, hq42⟩
          rcases hq42 with ⟨c43, ee44⟩
          · have hc45 : M9 (c + 54) = some (sObj 5 [.ref (c + 55), .ref (c + 56), .int (sI c924)]) := (hf41 (c + 54) ).trans hc28
            have hc46 : M9 (c + 55) = some (sArr G 61 F925) := (hf41 (c + 55) ).trans hc29
            have hc47 : M9 (c + 56) = some (sArr G 61 H926) := (hf41 (c + 56) ).trans hc30
            exact ⟨by omega, ⟨_, _, _, hc45, hc46, hc47⟩, fun x q0 => ((hf41 x ).trans (hf31 x (by omega) (by omega) (by omega))).trans (hf12 x ), Or.inr (Or.inr (⟨(by first | exact c43 | omega), ee44⟩))⟩
        obtain ⟨hN48, hf49, hq50⟩ := hp38
        rw [hN48] at hV
        rcases hq50 with c51
        · refine lv_iload_n hx_ hb_ dX10_stayAt_56 rfl (lv_at hl 3 rfl) ?_
          refine sz_ne (tgt := 69) S dX10_stayAt_57 (by decide) (by omega) (fun c52 => ?_) (fun c52 => ?_)
          · refine lv_iload_n hx_ hb_ dX10_stayAt_69 rfl (lv_at hl 3 rfl) ?_
            refine si_const S dX10_stayAt_70 ?_
            refine sb_ne (tgt := 85) S dX10_stayAt_71 (by decide) (by omega) (fun c53 => ?_) (fun c53 => ?_)
            · refine lv_aload_n hx_ hb_ dX10_stayAt_85 rfl (lv_at hl 0 rfl) ?_
              have hc54 : M36 c = some (xO c kn ch) := (hf49 c ).trans hc34
              refine sc_get (ci := 8) (C := RX10) (T := TX10) (n := 11) S hK hV inX10_ hc54 rfl 9 (by decide) (S.2.2.2.2 _ (List.mem_of_getElem? (i := 3) rfl)) rfl rfl dX10_stayAt_86 ?_
              refine lv_iload_n hx_ hb_ dX10_stayAt_89 rfl (lv_at hl 2 rfl) ?_
              have hc55 : M36 (c + 54) = some (sObj 5 [.ref (c + 55), .ref (c + 56), .int (sI c924)]) := (hf49 (c + 54) ).trans hc28
              have hc56 : M36 (c + 55) = some (sArr G 61 F925) := (hf49 (c + 55) ).trans hc29
              refine sk_VP E hV (As := [.int (sI j)]) (rest := []) (kX7_lastOf l_ G b_ M36 N (c + 54) c924 F925 H926 (fun x => hnd f s x (f 571)) j hc55 hc56 (hsk9) (by omega)) (cwV 1 S.2.2.2.2 gX10_stayAt_X7_lastOf rfl rfl rfl (by decide +kernel) ⟨Nat.le_of_ble_eq_true rfl, Nat.le_of_ble_eq_true rfl⟩) (ci := 5) hc55 rfl rfl rfl hl.1 (Nat.le_of_ble_eq_true rfl) dX10_stayAt_90 (c1 := 2) (s1 := 12) ⟨⟨rfl, rfl⟩, by decide, by decide⟩ (fun H locs hV => ?_)
              have hc57 : M36 (c + 56) = some (sArr G 61 H926) := (hf49 (c + 56) ).trans hc30
              exact xr_i E hQ dX10_stayAt_93 ⟨Nat.le_of_ble_eq_true rfl, Nat.le_of_ble_eq_true rfl⟩ hV (⟨rfl, ⟨_, _, _, hc55, hc56, hc57⟩, fun x q0 => ((hf49 x ).trans (hf31 x (by omega) (by omega) (by omega))).trans (hf12 x ), Or.inr (Or.inr (⟨(by omega), by
                by_cases e9 : j < c924 - 1
                · rw [if_pos e9, if_neg (by omega), hseg.2 (j + 1) (by omega) (by omega)]
                · rw [if_neg e9, if_pos (by omega)]⟩))⟩)
            · refine lv_aload_n hx_ hb_ dX10_stayAt_74 rfl (lv_at hl 0 rfl) ?_
              have hc58 : M36 c = some (xO c kn ch) := (hf49 c ).trans hc34
              refine sc_get (ci := 8) (C := RX10) (T := TX10) (n := 11) S hK hV inX10_ hc58 rfl 9 (by decide) (S.2.2.2.2 _ (List.mem_of_getElem? (i := 3) rfl)) rfl rfl dX10_stayAt_75 ?_
              refine lv_iload_n hx_ hb_ dX10_stayAt_78 rfl (lv_at hl 2 rfl) ?_
              have hc59 : M36 (c + 54) = some (sObj 5 [.ref (c + 55), .ref (c + 56), .int (sI c924)]) := (hf49 (c + 54) ).trans hc28
              have hc60 : M36 (c + 55) = some (sArr G 61 F925) := (hf49 (c + 55) ).trans hc29
              refine sk_VP E hV (As := [.int (sI j)]) (rest := []) (kX7_firstOf l_ G b_ M36 N (c + 54) c924 F925 j hc59 hc60 (by omega)) (cwV 1 S.2.2.2.2 gX10_stayAt_X7_firstOf rfl rfl rfl (by decide +kernel) ⟨Nat.le_of_ble_eq_true rfl, Nat.le_of_ble_eq_true rfl⟩) (ci := 5) hc59 rfl rfl rfl hl.1 (Nat.le_of_ble_eq_true rfl) dX10_stayAt_79 (c1 := 2) (s1 := 12) ⟨⟨rfl, rfl⟩, by decide, by decide⟩ (fun H locs hV => ?_)
              refine lv_goto (tgt := 93) hx_ hb_ dX10_stayAt_82 (by decide) ?_
              have hc61 : M36 (c + 56) = some (sArr G 61 H926) := (hf49 (c + 56) ).trans hc30
              exact xr_i E hQ dX10_stayAt_93 ⟨Nat.le_of_ble_eq_true rfl, Nat.le_of_ble_eq_true rfl⟩ hV (⟨rfl, ⟨_, _, _, hc59, hc60, hc61⟩, fun x q0 => ((hf49 x ).trans (hf31 x (by omega) (by omega) (by omega))).trans (hf12 x ), Or.inr (Or.inl ⟨(by omega), by
                by_cases e9 : j = 0
                · rw [if_pos e9, e9]; exact hsk9.2.2.1.1
                · rw [if_neg e9, hseg.2 j (by omega) (by omega)]; exact (dF_r hsk9.2.2.1 (by omega) (by omega)).2.2.2⟩)⟩)
          · refine lv_aload_n hx_ hb_ dX10_stayAt_60 rfl (lv_at hl 0 rfl) ?_
            have hc62 : M36 c = some (xO c kn ch) := (hf49 c ).trans hc34
            refine sc_get (ci := 8) (C := RX10) (T := TX10) (n := 11) S hK hV inX10_ hc62 rfl 9 (by decide) (S.2.2.2.2 _ (List.mem_of_getElem? (i := 3) rfl)) rfl rfl dX10_stayAt_61 ?_
            refine lv_iload_n hx_ hb_ dX10_stayAt_64 rfl (lv_at hl 2 rfl) ?_
            have hc63 : M36 (c + 54) = some (sObj 5 [.ref (c + 55), .ref (c + 56), .int (sI c924)]) := (hf49 (c + 54) ).trans hc28
            have hc64 : M36 (c + 56) = some (sArr G 61 H926) := (hf49 (c + 56) ).trans hc30
            refine sk_VP E hV (As := [.int (sI j)]) (rest := []) (kX7_handOf l_ G b_ M36 N (c + 54) c924 H926 j hc63 hc64 (by omega)) (cwV 1 S.2.2.2.2 gX10_stayAt_X7_handOf rfl rfl rfl (by decide +kernel) ⟨Nat.le_of_ble_eq_true rfl, Nat.le_of_ble_eq_true rfl⟩) (ci := 5) hc63 rfl rfl rfl hl.1 (Nat.le_of_ble_eq_true rfl) dX10_stayAt_65 (c1 := 2) (s1 := 12) ⟨⟨rfl, rfl⟩, by decide, by decide⟩ (fun H locs hV => ?_)
            have hc65 : M36 (c + 55) = some (sArr G 61 F925) := (hf49 (c + 55) ).trans hc29
            exact xr_i E hQ dX10_stayAt_68 ⟨Nat.le_of_ble_eq_true rfl, Nat.le_of_ble_eq_true rfl⟩ hV (⟨rfl, ⟨_, _, _, hc63, hc65, hc64⟩, fun x q0 => ((hf49 x ).trans (hf31 x (by omega) (by omega) (by omega))).trans (hf12 x ), Or.inl ⟨(by omega), by rw [hseg.2 j (by omega) (by omega)]; exact (hsk9.2.2.2 j (by omega) (by omega)).1⟩⟩)
      · exact xt_W (own := RX10) (rest := []) E hF_ hxt_ hQ hlt (ik := 173) (is := 269) (ic := 177) (cls := "java/lang/IndexOutOfBoundsException") (text := "no such stay") (by decide +kernel) xg_IO (List.mem_of_getElem? (i := 1) rfl) (List.mem_of_getElem? (i := 2) rfl) (fun _ h => List.mem_cons_of_mem _ (List.mem_append_left _ (List.mem_append_right _ h))) (List.mem_of_getElem? (i := 16) rfl) hl.1 dX10_stayAt_39 dX10_stayAt_42 dX10_stayAt_43 dX10_stayAt_46 dX10_stayAt_49 ⟨Nat.le_of_ble_eq_true rfl, Nat.le_of_ble_eq_true rfl, Nat.le_of_ble_eq_true rfl, Nat.le_of_ble_eq_true rfl⟩ ⟨Nat.le_of_ble_eq_true rfl, Nat.le_of_ble_eq_true rfl⟩ hV (fun N9 h9 => ⟨by omega, ⟨_, _, _, hc28, hc29, hc30⟩, fun x q0 => (hf31 x (by omega) (by omega) (by omega)).trans (hf12 x ), Or.inr (Or.inl ⟨(by first | omega | assumption), rfl⟩)⟩)

abbrev rmX10_away : Room := { frames := 8, cells := 10, slots := 60, locals := 171 }
set_option maxHeartbeats 4000000 in
set_option maxRecDepth 100000 in
theorem kX10_away (l_ : Launch) (G : sG) (b_ : Nat) (M : sM) (N : Nat) (c : Nat) (kn ch : Int) (f : sF) (s a b : Int) (hc0 : M c = some (xO c kn ch)) (hst : stC G M (c + 1) f) (hkn : knoC G M (c + 54)) (hlt : l_.stackTraces = false) (hok : sOk f) (hr : sR s ∧ sR a ∧ sR b) : xcI l_ yX10_away wsX10_away rmX10_away G b_ M N [.ref c, .int (sI s), .int (sI a), .int (sI b)] (fun z_ M1 N1 => N1 = N ∧ knoC G M1 (c + 54) ∧ (∀ x : Nat, ¬ (c + 54 ≤ x ∧ x < c + 54 + 3) → M1 x = M x) ∧ ((((0 ≤ s ∧ s < f 568) ∧ isDt a ∧ isDt b ∧ a ≤ b) ∧ z_ = isum (dayI b - dayI a + 1) (awT f s (dayI a + 3652))))) (fun E_ M1 N1 => N ≤ N1 ∧ knoC G M1 (c + 54) ∧ (∀ x : Nat, ¬ (c + 54 ≤ x ∧ x < c + 54 + 3) → M1 x = M x) ∧ (((¬ (0 ≤ s ∧ s < f 568)) ∧ E_ = "java/lang/IndexOutOfBoundsException") ∨ (((0 ≤ s ∧ s < f 568) ∧ ¬ (isDt a ∧ isDt b ∧ a ≤ b)) ∧ E_ = "java/lang/IllegalArgumentException"))) := by
  refine xcE.ofI (cc := cX10_away) (nL := 6) (ret := (some .int)) (by decide) rfl (Nat.le_of_ble_eq_true rfl) ?_
  intro p_ e_ s_ m_ args_ below_ meth_ c_ ls Q hQ E hF_ hxt_ hl
  have E : sE p_ l_ e_ rmX10_away s_ m_ args_ below_ meth_ c_ cX10_away 6 wsX10_away RX10 "away" (some .int) G b_ M N := E
  have S := E.1
  have hx_ := S.1
  have hb_ := S.2.1
  have hK := E.2.2.2.2.1
  have hV := E.2.2.2.2.2.2
  have hl : lv_has ls 6 [(0, .ref c), (1, .int (sI s)), (2, .int (sI a)), (3, .int (sI b))] := hl
  have inX10_ : ∀ w ∈ wsX100, w ∈ wsX10_away := fun _ h => List.mem_cons_of_mem _ (List.mem_append_left _ (List.mem_append_left _ (List.mem_append_left _ (List.mem_append_left _ (List.mem_append_left _ (List.mem_append_right _ h))))))
  have inX6_ : ∀ w ∈ wsX60, w ∈ wsX10_away := fun _ h => List.mem_cons_of_mem _ (List.mem_append_left _ (List.mem_append_left _ (List.mem_append_left _ (List.mem_append_left _ (List.mem_append_right _ h)))))
  have inX8_ : ∀ w ∈ wsX80, w ∈ wsX10_away := fun _ h => List.mem_cons_of_mem _ (List.mem_append_left _ (List.mem_append_left _ (List.mem_append_left _ (List.mem_append_right _ h))))
  have inX7_ : ∀ w ∈ wsX70, w ∈ wsX10_away := fun _ h => List.mem_cons_of_mem _ (List.mem_append_left _ (List.mem_append_left _ (List.mem_append_right _ h)))
  have hbN : b_ ≤ N := by have h1 := hV.1.1; have h2 := hV.2.2; omega
  have kn0 := sOk_N hok
  have hkn2 := hkn
  obtain ⟨c0, F0_, H0_, h54, h55, h56⟩ := hkn2
  refine lv_aload_n hx_ hb_ dX10_away_0 rfl (lv_at hl 0 rfl) ?_
  refine lv_iload_n hx_ hb_ dX10_away_1 rfl (lv_at hl 1 rfl) ?_
  refine xk_Vv E hF_ hxt_ hQ hV (As := [.int (sI s)]) (rest := []) (kX10_needStone l_ G b_ M N c kn ch f s hc0 hst (by omega) (by omega) (by omega)) (cwV 1 S.2.2.2.2 gX10_away_X10_needStone rfl rfl rfl (by decide +kernel) ⟨Nat.le_of_ble_eq_true rfl, Nat.le_of_ble_eq_true rfl⟩) (ci := 8) hc0 rfl rfl rfl hl.1 (Nat.le_of_ble_eq_true rfl) dX10_away_2 (c1 := 1) (s1 := 6) ⟨⟨rfl, rfl⟩, by decide, by decide⟩ ⟨Nat.le_of_ble_eq_true rfl, Nat.le_of_ble_eq_true rfl⟩ ?_ (fun M1 N2 H locs hp3 hV => ?_)
  · rintro E9 M9 N9 ⟨hN5, hf6, hq7⟩
    rcases hq7 with ⟨c8, ee9⟩
    · have hc10 : knoC G M9 (c + 54) := hkn.fr (fun x q8 q9 => hf6 x )
      exact ⟨by omega, hc10, fun x q0 => hf6 x , Or.inl ⟨(by first | exact c8 | omega), ee9⟩⟩
  obtain ⟨hN11, hf12, hq13⟩ := hp3
  rw [hN11] at hV
  rcases hq13 with c14
  · refine lv_iload_n hx_ hb_ dX10_away_5 rfl (lv_at hl 2 rfl) ?_
    refine lv_iload_n hx_ hb_ dX10_away_6 rfl (lv_at hl 3 rfl) ?_
    refine xk_Sv E hF_ hxt_ hQ hV (As := [.int (sI a), .int (sI b)]) (rest := []) (kX10_needDates l_ G b_ M1 N a b (by omega) (by omega)) (va_cwS 2 S.2.2.2.2 gX10_away_X10_needDates rfl rfl rfl (by decide +kernel) ⟨Nat.le_of_ble_eq_true rfl, Nat.le_of_ble_eq_true rfl⟩) rfl rfl hl.1 (Nat.le_of_ble_eq_true rfl) dX10_away_7 (c1 := 4) (s1 := 24) ⟨⟨rfl, rfl⟩, by decide, by decide⟩ ⟨Nat.le_of_ble_eq_true rfl, Nat.le_of_ble_eq_true rfl⟩ ?_ (fun M15 N16 H locs hp17 hV => ?_)
    · rintro E9 M9 N9 ⟨hN19, hf20, hq21⟩
      rcases hq21 with ⟨c22, ee23⟩
      · have hc24 : knoC G M9 (c + 54) := hkn.fr (fun x q8 q9 => (hf20 x ).trans (hf12 x ))
        exact ⟨by omega, hc24, fun x q0 => (hf20 x ).trans (hf12 x ), Or.inr (⟨(⟨by omega, c22⟩), ee23⟩)⟩
    obtain ⟨hN25, hf26, hq27⟩ := hp17
    rw [hN25] at hV
    rcases hq27 with c28
    · have hda := dayI_r (show isDt a from (show isDt a ∧ isDt b ∧ a ≤ b by assumption).1)
      have hdb := dayI_r (show isDt b from (show isDt a ∧ isDt b ∧ a ≤ b by assumption).2.1)
      have hdab := (dayI_le (isDt_x (show isDt a ∧ isDt b ∧ a ≤ b by assumption).1) (isDt_x (show isDt a ∧ isDt b ∧ a ≤ b by assumption).2.1)).mpr (show isDt a ∧ isDt b ∧ a ≤ b by assumption).2.2
      refine lv_aload_n hx_ hb_ dX10_away_10 rfl (lv_at hl 0 rfl) ?_
      have hc29 : M15 c = some (xO c kn ch) := ((hf26 c ).trans (hf12 c )).trans hc0
      refine sc_get (ci := 8) (C := RX10) (T := TX10) (n := 11) S hK hV inX10_ hc29 rfl 9 (by decide) (S.2.2.2.2 _ (List.mem_of_getElem? (i := 1) rfl)) rfl rfl dX10_away_11 ?_
      refine lv_aload_n hx_ hb_ dX10_away_14 rfl (lv_at hl 0 rfl) ?_
      refine sc_get (ci := 8) (C := RX10) (T := TX10) (n := 11) S hK hV inX10_ hc29 rfl 0 (by decide) (S.2.2.2.2 _ (List.mem_of_getElem? (i := 2) rfl)) rfl rfl dX10_away_15 ?_
      refine lv_iload_n hx_ hb_ dX10_away_18 rfl (lv_at hl 1 rfl) ?_
      refine lv_aload_n hx_ hb_ dX10_away_19 rfl (lv_at hl 0 rfl) ?_
      refine sc_get (ci := 8) (C := RX10) (T := TX10) (n := 11) S hK hV inX10_ hc29 rfl 0 (by decide) (S.2.2.2.2 _ (List.mem_of_getElem? (i := 2) rfl)) rfl rfl dX10_away_20 ?_
      have hc30 : stC G M15 (c + 1) f := hst.fr (fun x q8 q9 => (hf26 x ).trans (hf12 x ))
      refine sc_getN (ci := 4) (C := RX6) (T := TX6) (n := 8) S hK hV inX6_ (hc30).1 rfl 7 (by decide) (E.2.2.2.2.2.1.1.2.1 _ (List.mem_of_getElem? (i := 14) rfl)) rfl rfl dX10_away_23 ?_
      have hc31 : M15 (c + 54) = some (sObj 5 [.ref (c + 55), .ref (c + 56), .int (sI c0)]) := ((hf26 (c + 54) ).trans (hf12 (c + 54) )).trans h54
      have hc32 : M15 (c + 55) = some (sArr G 61 F0_) := ((hf26 (c + 55) ).trans (hf12 (c + 55) )).trans h55
      have hc33 : M15 (c + 56) = some (sArr G 61 H0_) := ((hf26 (c + 56) ).trans (hf12 (c + 56) )).trans h56
      refine sk_Vv E hV (As := [.ref (c + 1), .int (sI s), .int (sI (f 571))]) (rest := []) (kX7_lookAt l_ G b_ M15 N (c + 54) (c + 1) c0 F0_ H0_ f s (f 571) hc31 hc32 hc33 hc30 (by omega) (by omega) (by omega)) (cwV 3 S.2.2.2.2 gX10_away_X7_lookAt rfl rfl rfl (by decide +kernel) ⟨Nat.le_of_ble_eq_true rfl, Nat.le_of_ble_eq_true rfl⟩) (ci := 5) hc31 rfl rfl rfl hl.1 (Nat.le_of_ble_eq_true rfl) dX10_away_26 (c1 := 4) (s1 := 24) ⟨⟨rfl, rfl⟩, by decide, by decide⟩ (fun M34 N35 H locs hp36 hV => ?_)
      obtain ⟨c938, F939, H940, hN41, hc42, hc43, hc44, hf45, hsk946⟩ := hp36
      rw [hN41] at hV
      have hsk9 := hsk946
      have hseg := seg_eq hsk9.1
      have hskc := hsk9.2.1
      refine si_const S dX10_away_29 ?_
      refine lv_istore (lv' := [(4, .int (sI 0)), (0, .ref c), (1, .int (sI s)), (2, .int (sI a)), (3, .int (sI b))]) hx_ hb_ dX10_away_30 hl (by decide) rfl (fun ls hl => ?_)
      refine si_const S dX10_away_32 ?_
      refine lv_istore (lv' := [(5, .int (sI 0)), (4, .int (sI 0)), (0, .ref c), (1, .int (sI s)), (2, .int (sI a)), (3, .int (sI b))]) hx_ hb_ dX10_away_33 hl (by decide) rfl (fun ls hl => ?_)
      have L35 : ∀ (fuel : Nat) (z : Int) (j : Int)  (H : Heap) (locs : List Loc) (ls : Array Slot), ((c938 - j).toNat) < fuel → (0 ≤ j ∧ j ≤ c938) → (z = isum j (fun q => aw1 (H940 q) * dwI F939 c938 q (dayI a) (dayI b))) → sV G b_ M34 N s_ H locs → lv_has ls 6 [(0, .ref c), (2, .int (sI a)), (3, .int (sI b)), (4, .int (sI z)), (5, .int (sI j))] → W p_ l_ e_ rmX10_away s_ m_ args_ below_ meth_ c_ H locs 4 24 Q (F0 m_ 35 ls []) := by
        intro fuel
        induction fuel with
        | zero => intro z j H locs ls hmu; exact absurd hmu (Nat.not_lt_zero _)
        | succ fuel ih35 =>
          intro z j H locs ls hmu35 hv35_0 hz  hV hl
          refine lv_iload hx_ hb_ dX10_away_35 (lv_at hl 4 rfl) ?_
          refine lv_aload_n hx_ hb_ dX10_away_37 rfl (lv_at hl 0 rfl) ?_
          have hc47 : M34 c = some (xO c kn ch) := (hf45 c (by omega) (by omega) (by omega)).trans hc29
          refine sc_get (ci := 8) (C := RX10) (T := TX10) (n := 11) S hK hV inX10_ hc47 rfl 9 (by decide) (S.2.2.2.2 _ (List.mem_of_getElem? (i := 1) rfl)) rfl rfl dX10_away_38 ?_
          refine sk_VP E hV (As := []) (rest := [.int (sI j)]) (kX7_size l_ G b_ M34 N (c + 54) c938 hc42) (cwV 0 S.2.2.2.2 gX10_away_X7_size rfl rfl rfl (by decide +kernel) ⟨Nat.le_of_ble_eq_true rfl, Nat.le_of_ble_eq_true rfl⟩) (ci := 5) hc42 rfl rfl rfl hl.1 (Nat.le_of_ble_eq_true rfl) dX10_away_41 (c1 := 4) (s1 := 24) ⟨⟨rfl, rfl⟩, by decide, by decide⟩ (fun H locs hV => ?_)
          refine sb_ge (tgt := 87) S dX10_away_44 (by decide) (by omega) (fun c48 => ?_) (fun c48 => ?_)
          · refine lv_iload hx_ hb_ dX10_away_87 (lv_at hl 3 rfl) ?_
            exact xr_i E hQ dX10_away_89 ⟨Nat.le_of_ble_eq_true rfl, Nat.le_of_ble_eq_true rfl⟩ hV (⟨rfl, ⟨_, _, _, hc42, hc43, hc44⟩, fun x q0 => ((hf45 x (by omega) (by omega) (by omega)).trans (hf26 x )).trans (hf12 x ), ⟨(⟨by omega, by assumption⟩), by rw [aw_s hsk9 (by omega) hdab, hz, show j = c938 by omega]⟩⟩)
          · refine lv_aload_n hx_ hb_ dX10_away_47 rfl (lv_at hl 0 rfl) ?_
            refine sc_get (ci := 8) (C := RX10) (T := TX10) (n := 11) S hK hV inX10_ hc47 rfl 9 (by decide) (S.2.2.2.2 _ (List.mem_of_getElem? (i := 1) rfl)) rfl rfl dX10_away_48 ?_
            refine lv_iload hx_ hb_ dX10_away_51 (lv_at hl 4 rfl) ?_
            refine sk_VP E hV (As := [.int (sI j)]) (rest := []) (kX7_handOf l_ G b_ M34 N (c + 54) c938 H940 j hc42 hc44 (by omega)) (cwV 1 S.2.2.2.2 gX10_away_X7_handOf rfl rfl rfl (by decide +kernel) ⟨Nat.le_of_ble_eq_true rfl, Nat.le_of_ble_eq_true rfl⟩) (ci := 5) hc42 rfl rfl rfl hl.1 (Nat.le_of_ble_eq_true rfl) dX10_away_53 (c1 := 4) (s1 := 24) ⟨⟨rfl, rfl⟩, by decide, by decide⟩ (fun H locs hV => ?_)
            have hHj := (hsk9.2.2.2 j (by omega) (by omega)).2
            refine sz_eq (tgt := 81) S dX10_away_56 (by decide) (by omega) (fun c49 => ?_) (fun c49 => ?_)
            · refine si_inc (lv' := [(5, .int (sI (j + 1))), (0, .ref c), (2, .int (sI a)), (3, .int (sI b)), (4, .int (sI z))]) S dX10_away_81 hl (k := 4) rfl (by decide) rfl (fun ls hl => ?_)
              refine lv_goto (tgt := 35) hx_ hb_ dX10_away_84 (by decide) ?_
              exact ih35 z (j + 1) _ _ _ (by omega) (by omega) (by rw [isum_s _ (by omega), ← hz]; show _ = z + aw1 (H940 j) * dwI F939 c938 j (dayI a) (dayI b); unfold aw1; rw [if_neg (by omega), Int.zero_mul, Int.add_zero]) hV (lv_sub hl [1, 2, 3, 4, 0] rfl)
            · refine lv_iload hx_ hb_ dX10_away_59 (lv_at hl 3 rfl) ?_
              refine lv_aload_n hx_ hb_ dX10_away_61 rfl (lv_at hl 0 rfl) ?_
              refine sc_get (ci := 8) (C := RX10) (T := TX10) (n := 11) S hK hV inX10_ hc47 rfl 9 (by decide) (S.2.2.2.2 _ (List.mem_of_getElem? (i := 1) rfl)) rfl rfl dX10_away_62 ?_
              refine lv_iload hx_ hb_ dX10_away_65 (lv_at hl 4 rfl) ?_
              refine lv_iload_n hx_ hb_ dX10_away_67 rfl (lv_at hl 1 rfl) ?_
              refine sk_SP E hV (As := [.int (sI a)]) (rest := [.int (sI j), .ref (c + 54), .int (sI z)]) (kX0_dayOf l_ G b_ M34 N a (by omega)) (va_cwS 1 S.2.2.2.2 gX10_away_X0_dayOf rfl rfl rfl (by decide +kernel) ⟨Nat.le_of_ble_eq_true rfl, Nat.le_of_ble_eq_true rfl⟩) rfl rfl hl.1 (Nat.le_of_ble_eq_true rfl) dX10_away_68 (c1 := 4) (s1 := 24) ⟨⟨rfl, rfl⟩, by decide, by decide⟩ (fun H locs hV => ?_)
              refine lv_iload_n hx_ hb_ dX10_away_71 rfl (lv_at hl 2 rfl) ?_
              refine sk_SP E hV (As := [.int (sI b)]) (rest := [.int (sI (dayI a)), .int (sI j), .ref (c + 54), .int (sI z)]) (kX0_dayOf l_ G b_ M34 N b (by omega)) (va_cwS 1 S.2.2.2.2 gX10_away_X0_dayOf rfl rfl rfl (by decide +kernel) ⟨Nat.le_of_ble_eq_true rfl, Nat.le_of_ble_eq_true rfl⟩) rfl rfl hl.1 (Nat.le_of_ble_eq_true rfl) dX10_away_72 (c1 := 4) (s1 := 24) ⟨⟨rfl, rfl⟩, by decide, by decide⟩ (fun H locs hV => ?_)
              refine sk_VP E hV (As := [.int (sI j), .int (sI (dayI a)), .int (sI (dayI b))]) (rest := [.int (sI z)]) (kX7_daysWithin l_ G b_ M34 N (c + 54) c938 F939 H940 (fun x => hnd f s x (f 571)) j (dayI a) (dayI b) hc42 hc43 hc44 (hsk9) (by omega) (by omega)) (cwV 3 S.2.2.2.2 gX10_away_X7_daysWithin rfl rfl rfl (by decide +kernel) ⟨Nat.le_of_ble_eq_true rfl, Nat.le_of_ble_eq_true rfl⟩) (ci := 5) hc42 rfl rfl rfl hl.1 (Nat.le_of_ble_eq_true rfl) dX10_away_75 (c1 := 4) (s1 := 24) ⟨⟨rfl, rfl⟩, by decide, by decide⟩ (fun H locs hV => ?_)
              refine si_add S dX10_away_78 ?_
              refine lv_istore (lv' := [(4, .int (sI (z + (dwI F939 c938 j (dayI a) (dayI b))))), (0, .ref c), (2, .int (sI a)), (3, .int (sI b)), (5, .int (sI j))]) hx_ hb_ dX10_away_79 hl (by decide) rfl (fun ls hl => ?_)
              refine si_inc (lv' := [(5, .int (sI (j + 1))), (4, .int (sI (z + (dwI F939 c938 j (dayI a) (dayI b))))), (0, .ref c), (2, .int (sI a)), (3, .int (sI b))]) S dX10_away_81 hl (k := 4) rfl (by decide) rfl (fun ls hl => ?_)
              refine lv_goto (tgt := 35) hx_ hb_ dX10_away_84 (by decide) ?_
              exact ih35 (z + (dwI F939 c938 j (dayI a) (dayI b))) (j + 1) _ _ _ (by omega) (by omega) (by rw [isum_s _ (by omega), ← hz]; show _ = z + aw1 (H940 j) * dwI F939 c938 j (dayI a) (dayI b); unfold aw1; rw [if_pos (by omega), Int.one_mul]) hV (lv_sub hl [2, 3, 4, 1, 0] rfl)
      exact L35 _ 0 0 _ _ _ (Nat.lt_succ_self _) (by omega) (rfl) hV (lv_sub hl [2, 4, 5, 1, 0] rfl)

