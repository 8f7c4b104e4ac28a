/-! The law: its loop. -/
theorem lI_s {G : sG} {M : sM} {c m o kb : Nat} {q : Int} (h : lI G M c m o kb q) : lI G M c m o kb (q + 1) := by
  obtain ⟨kn, ch, f, fs, tn, te, t, wc, wn, T, T2, th, sn, nm, g0, A4, A5, A6, A7, A8, A9, A10, A11, A12, A13, A14, hc0, hst, htr, hkp, ht0, ht1, hct, hft, hly, hkn, hex, hm0, hm1, hsv, hm3, hm4, hm5, hm6, hm7, hm8, hm9, hm10, hm11, hm12, hm13, hm14, hm15, ho9, hlF, htp, hwr⟩ := h
  exact ⟨kn, ch, f, fs, tn, te, t, wc, wn, T, T2, th, sn, nm, g0, A4, A5, A6, A7, A8, A9, A10, A11, A12, A13, A14, hc0, hst, htr, hkp, ht0, ht1, hct, hft, hly, hkn, hex, hm0, hm1, hsv, hm3, hm4, hm5, hm6, hm7, hm8, hm9, hm10, hm11, hm12, hm13, hm14, hm15, ho9, lF_s hlF, htp, hwr⟩
set_option maxHeartbeats 4000000 in
set_option maxRecDepth 100000 in
theorem law_go {p_ : Program} {l_ : Launch} {e_ : Env} {s_ : State} {m_ : MethodId} {args_ : Array Value} {below_ : List Frame} {meth_ : Method} {c_ : Code} {nm_ : String} {G : sG} {b_ : Nat} {M0 : sM} {N0 : Nat} {Q : State → Prop} (E : sE p_ l_ e_ room_1 s_ m_ args_ below_ meth_ c_ cL_law 9 wsL_law RL nm_ (some .boolean) G b_ M0 N0) (hF_ : xcF s_) (hlt : l_.stackTraces = false) {z L : Nat} {xs : Nat → Int32} (hX : va_X z L xs s_ s_.heap) (hzb : z < b_) {c m o kb : Nat} (hg : c + 60 ≤ m ∧ m + 16 ≤ o ∧ o < kb) {cc_ ss_ : Nat} (hcc : cc_ + 1170 ≤ room_1.cells ∧ ss_ + 14000 ≤ room_1.slots) {q i : Int} (hi : 0 ≤ i ∧ i + 6 ≤ L ∧ (L : Int) ≤ 3072) (hq : 0 ≤ q ∧ q ≤ 600) {M : sM} {N : Nat} (hkN : kb ≤ N) (hI : lI G M c m o kb q) {H : Heap} {locs : List Loc} {ls : Array Slot} (hV : sV G b_ M N s_ H locs) (hl : lv_has ls 9 [(0, .ref z), (1, .ref c), (2, .ref m), (3, .ref o), (4, .int (sI i))])
    (hk : ∀ (M1 : sM) (N1 : Nat) (H1 : Heap) (locs1 : List Loc) (ls1 : Array Slot), kb ≤ N1 → lI G M1 c m o kb (q + 1) → sV G b_ M1 N1 s_ H1 locs1 → lv_has ls1 9 [(0, .ref z), (1, .ref c), (2, .ref m), (3, .ref o), (4, .int (sI i))] → W p_ l_ e_ room_1 s_ m_ args_ below_ meth_ c_ H1 locs1 (cc_ + 1170) (ss_ + 14000) Q (F0 m_ 2853 ls1 [])) : W p_ l_ e_ room_1 s_ m_ args_ below_ meth_ c_ H locs cc_ ss_ Q (F0 m_ 33 ls []) := by
  have S := E.1
  have hx_ := S.1
  have hb_ := S.2.1
  refine lv_aload_n hx_ hb_ dL_law_33 rfl (lv_at hl 0 rfl) ?_
  refine lv_iload hx_ hb_ dL_law_34 (lv_at hl 4 rfl) ?_
  refine sc_sld S hV hX hzb (by omega) dL_law_36 ?_
  refine si_bipush S dL_law_37 (by decide) ?_
  refine si_and S dL_law_39 ?_
  have hj : sR (iand (lX xs i) 63) := iand_r _ _
  generalize iand (lX xs i) 63 = j at hj ⊢
  rcases (show j = 0 ∨ j = 1 ∨ j = 2 ∨ j = 3 ∨ j = 4 ∨ j = 5 ∨ j = 6 ∨ j = 7 ∨ j = 8 ∨ j = 9 ∨ j = 10 ∨ j = 11 ∨ j = 12 ∨ j = 13 ∨ j = 14 ∨ j = 15 ∨ j = 16 ∨ j = 17 ∨ j = 18 ∨ j = 19 ∨ j = 20 ∨ j = 21 ∨ j = 22 ∨ j = 23 ∨ j = 24 ∨ j = 25 ∨ j = 26 ∨ j = 27 ∨ j = 28 ∨ j = 29 ∨ j = 30 ∨ j = 31 ∨ j = 32 ∨ j = 33 ∨ j = 34 ∨ j = 35 ∨ j = 36 ∨ j = 37 ∨ j = 38 ∨ j = 39 ∨ j = 40 ∨ j = 41 ∨ j = 42 ∨ j = 43 ∨ j = 44 ∨ j = 45 ∨ j = 46 ∨ j = 47 ∨ (j < 0 ∨ 47 < j) by omega) with h | h | h | h | h | h | h | h | h | h | h | h | h | h | h | h | h | h | h | h | h | h | h | h | h | h | h | h | h | h | h | h | h | h | h | h | h | h | h | h | h | h | h | h | h | h | h | h | h
  · refine lv_tableIn (off := 208) (tgt := 248) hx_ hb_ dL_law_40 (by rw [sI_toInt hj, h]; decide) (by rw [sI_toInt hj, h]; decide) (by rw [sI_toInt hj, h]; decide) (by decide) ?_
    exact law_0 E hF_ hlt hX hzb hg hcc hi hq hkN hI hV hl hk
  · refine lv_tableIn (off := 312) (tgt := 352) hx_ hb_ dL_law_40 (by rw [sI_toInt hj, h]; decide) (by rw [sI_toInt hj, h]; decide) (by rw [sI_toInt hj, h]; decide) (by decide) ?_
    exact law_1 E hF_ hlt hX hzb hg hcc hi hq hkN hI hV hl hk
  · refine lv_tableIn (off := 325) (tgt := 365) hx_ hb_ dL_law_40 (by rw [sI_toInt hj, h]; decide) (by rw [sI_toInt hj, h]; decide) (by rw [sI_toInt hj, h]; decide) (by decide) ?_
    exact law_2 E hF_ hlt hX hzb hg hcc hi hq hkN hI hV hl hk
  · refine lv_tableIn (off := 338) (tgt := 378) hx_ hb_ dL_law_40 (by rw [sI_toInt hj, h]; decide) (by rw [sI_toInt hj, h]; decide) (by rw [sI_toInt hj, h]; decide) (by decide) ?_
    exact law_3 E hF_ hlt hX hzb hg hcc hi hq hkN hI hV hl hk
  · refine lv_tableIn (off := 430) (tgt := 470) hx_ hb_ dL_law_40 (by rw [sI_toInt hj, h]; decide) (by rw [sI_toInt hj, h]; decide) (by rw [sI_toInt hj, h]; decide) (by decide) ?_
    exact law_4 E hF_ hlt hX hzb hg hcc hi hq hkN hI hV hl hk
  · refine lv_tableIn (off := 443) (tgt := 483) hx_ hb_ dL_law_40 (by rw [sI_toInt hj, h]; decide) (by rw [sI_toInt hj, h]; decide) (by rw [sI_toInt hj, h]; decide) (by decide) ?_
    exact law_5 E hF_ hlt hX hzb hg hcc hi hq hkN hI hV hl hk
  · refine lv_tableIn (off := 511) (tgt := 551) hx_ hb_ dL_law_40 (by rw [sI_toInt hj, h]; decide) (by rw [sI_toInt hj, h]; decide) (by rw [sI_toInt hj, h]; decide) (by decide) ?_
    exact law_6 E hF_ hlt hX hzb hg hcc hi hq hkN hI hV hl hk
  · refine lv_tableIn (off := 579) (tgt := 619) hx_ hb_ dL_law_40 (by rw [sI_toInt hj, h]; decide) (by rw [sI_toInt hj, h]; decide) (by rw [sI_toInt hj, h]; decide) (by decide) ?_
    exact law_7 E hF_ hlt hX hzb hg hcc hi hq hkN hI hV hl hk
  · refine lv_tableIn (off := 635) (tgt := 675) hx_ hb_ dL_law_40 (by rw [sI_toInt hj, h]; decide) (by rw [sI_toInt hj, h]; decide) (by rw [sI_toInt hj, h]; decide) (by decide) ?_
    exact law_8 E hF_ hlt hX hzb hg hcc hi hq hkN hI hV hl hk
  · refine lv_tableIn (off := 648) (tgt := 688) hx_ hb_ dL_law_40 (by rw [sI_toInt hj, h]; decide) (by rw [sI_toInt hj, h]; decide) (by rw [sI_toInt hj, h]; decide) (by decide) ?_
    exact law_9 E hF_ hlt hX hzb hg hcc hi hq hkN hI hV hl hk
  · refine lv_tableIn (off := 704) (tgt := 744) hx_ hb_ dL_law_40 (by rw [sI_toInt hj, h]; decide) (by rw [sI_toInt hj, h]; decide) (by rw [sI_toInt hj, h]; decide) (by decide) ?_
    exact law_10 E hF_ hlt hX hzb hg hcc hi hq hkN hI hV hl hk
  · refine lv_tableIn (off := 717) (tgt := 757) hx_ hb_ dL_law_40 (by rw [sI_toInt hj, h]; decide) (by rw [sI_toInt hj, h]; decide) (by rw [sI_toInt hj, h]; decide) (by decide) ?_
    exact law_11 E hF_ hlt hX hzb hg hcc hi hq hkN hI hV hl hk
  · refine lv_tableIn (off := 801) (tgt := 841) hx_ hb_ dL_law_40 (by rw [sI_toInt hj, h]; decide) (by rw [sI_toInt hj, h]; decide) (by rw [sI_toInt hj, h]; decide) (by decide) ?_
    exact law_12 E hF_ hlt hX hzb hg hcc hi hq hkN hI hV hl hk
  · refine lv_tableIn (off := 869) (tgt := 909) hx_ hb_ dL_law_40 (by rw [sI_toInt hj, h]; decide) (by rw [sI_toInt hj, h]; decide) (by rw [sI_toInt hj, h]; decide) (by decide) ?_
    exact law_13 E hF_ hlt hX hzb hg hcc hi hq hkN hI hV hl hk
  · refine lv_tableIn (off := 937) (tgt := 977) hx_ hb_ dL_law_40 (by rw [sI_toInt hj, h]; decide) (by rw [sI_toInt hj, h]; decide) (by rw [sI_toInt hj, h]; decide) (by decide) ?_
    exact law_14 E hF_ hlt hX hzb hg hcc hi hq hkN hI hV hl hk
  · refine lv_tableIn (off := 1033) (tgt := 1073) hx_ hb_ dL_law_40 (by rw [sI_toInt hj, h]; decide) (by rw [sI_toInt hj, h]; decide) (by rw [sI_toInt hj, h]; decide) (by decide) ?_
    exact law_15 E hF_ hlt hX hzb hg hcc hi hq hkN hI hV hl hk
  · refine lv_tableIn (off := 1074) (tgt := 1114) hx_ hb_ dL_law_40 (by rw [sI_toInt hj, h]; decide) (by rw [sI_toInt hj, h]; decide) (by rw [sI_toInt hj, h]; decide) (by decide) ?_
    exact law_16 E hF_ hlt hX hzb hg hcc hi hq hkN hI hV hl hk
  · refine lv_tableIn (off := 1130) (tgt := 1170) hx_ hb_ dL_law_40 (by rw [sI_toInt hj, h]; decide) (by rw [sI_toInt hj, h]; decide) (by rw [sI_toInt hj, h]; decide) (by decide) ?_
    exact law_17 E hF_ hlt hX hzb hg hcc hi hq hkN hI hV hl hk
  · refine lv_tableIn (off := 1210) (tgt := 1250) hx_ hb_ dL_law_40 (by rw [sI_toInt hj, h]; decide) (by rw [sI_toInt hj, h]; decide) (by rw [sI_toInt hj, h]; decide) (by decide) ?_
    exact law_18 E hF_ hlt hX hzb hg hcc hi hq hkN hI hV hl hk
  · refine lv_tableIn (off := 1313) (tgt := 1353) hx_ hb_ dL_law_40 (by rw [sI_toInt hj, h]; decide) (by rw [sI_toInt hj, h]; decide) (by rw [sI_toInt hj, h]; decide) (by decide) ?_
    exact law_19 E hF_ hlt hX hzb hg hcc hi hq hkN hI hV hl hk
  · refine lv_tableIn (off := 1381) (tgt := 1421) hx_ hb_ dL_law_40 (by rw [sI_toInt hj, h]; decide) (by rw [sI_toInt hj, h]; decide) (by rw [sI_toInt hj, h]; decide) (by decide) ?_
    exact law_20 E hF_ hlt hX hzb hg hcc hi hq hkN hI hV hl hk
  · refine lv_tableIn (off := 1449) (tgt := 1489) hx_ hb_ dL_law_40 (by rw [sI_toInt hj, h]; decide) (by rw [sI_toInt hj, h]; decide) (by rw [sI_toInt hj, h]; decide) (by decide) ?_
    exact law_21 E hF_ hlt hX hzb hg hcc hi hq hkN hI hV hl hk
  · refine lv_tableIn (off := 1490) (tgt := 1530) hx_ hb_ dL_law_40 (by rw [sI_toInt hj, h]; decide) (by rw [sI_toInt hj, h]; decide) (by rw [sI_toInt hj, h]; decide) (by decide) ?_
    exact law_22 E hF_ hlt hX hzb hg hcc hi hq hkN hI hV hl hk
  · refine lv_tableIn (off := 1570) (tgt := 1610) hx_ hb_ dL_law_40 (by rw [sI_toInt hj, h]; decide) (by rw [sI_toInt hj, h]; decide) (by rw [sI_toInt hj, h]; decide) (by decide) ?_
    exact law_23 E hF_ hlt hX hzb hg hcc hi hq hkN hI hV hl hk
  · refine lv_tableIn (off := 1626) (tgt := 1666) hx_ hb_ dL_law_40 (by rw [sI_toInt hj, h]; decide) (by rw [sI_toInt hj, h]; decide) (by rw [sI_toInt hj, h]; decide) (by decide) ?_
    exact law_24 E hF_ hlt hX hzb hg hcc hi hq hkN hI hV hl hk
  · refine lv_tableIn (off := 1639) (tgt := 1679) hx_ hb_ dL_law_40 (by rw [sI_toInt hj, h]; decide) (by rw [sI_toInt hj, h]; decide) (by rw [sI_toInt hj, h]; decide) (by decide) ?_
    exact law_25 E hF_ hlt hX hzb hg hcc hi hq hkN hI hV hl hk
  · refine lv_tableIn (off := 1719) (tgt := 1759) hx_ hb_ dL_law_40 (by rw [sI_toInt hj, h]; decide) (by rw [sI_toInt hj, h]; decide) (by rw [sI_toInt hj, h]; decide) (by decide) ?_
    exact law_26 E hF_ hlt hX hzb hg hcc hi hq hkN hI hV hl hk
  · refine lv_tableIn (off := 1787) (tgt := 1827) hx_ hb_ dL_law_40 (by rw [sI_toInt hj, h]; decide) (by rw [sI_toInt hj, h]; decide) (by rw [sI_toInt hj, h]; decide) (by decide) ?_
    exact law_27 E hF_ hlt hX hzb hg hcc hi hq hkN hI hV hl hk
  · refine lv_tableIn (off := 1867) (tgt := 1907) hx_ hb_ dL_law_40 (by rw [sI_toInt hj, h]; decide) (by rw [sI_toInt hj, h]; decide) (by rw [sI_toInt hj, h]; decide) (by decide) ?_
    exact law_28 E hF_ hlt hX hzb hg hcc hi hq hkN hI hV hl hk
  · refine lv_tableIn (off := 1947) (tgt := 1987) hx_ hb_ dL_law_40 (by rw [sI_toInt hj, h]; decide) (by rw [sI_toInt hj, h]; decide) (by rw [sI_toInt hj, h]; decide) (by decide) ?_
    exact law_29 E hF_ hlt hX hzb hg hcc hi hq hkN hI hV hl hk
  · refine lv_tableIn (off := 2026) (tgt := 2066) hx_ hb_ dL_law_40 (by rw [sI_toInt hj, h]; decide) (by rw [sI_toInt hj, h]; decide) (by rw [sI_toInt hj, h]; decide) (by decide) ?_
    exact law_30 E hF_ hlt hX hzb hg hcc hi hq hkN hI hV hl hk
  · refine lv_tableIn (off := 2094) (tgt := 2134) hx_ hb_ dL_law_40 (by rw [sI_toInt hj, h]; decide) (by rw [sI_toInt hj, h]; decide) (by rw [sI_toInt hj, h]; decide) (by decide) ?_
    exact law_31 E hF_ hlt hX hzb hg hcc hi hq hkN hI hV hl hk
  · refine lv_tableIn (off := 2162) (tgt := 2202) hx_ hb_ dL_law_40 (by rw [sI_toInt hj, h]; decide) (by rw [sI_toInt hj, h]; decide) (by rw [sI_toInt hj, h]; decide) (by decide) ?_
    exact law_32 E hF_ hlt hX hzb hg hcc hi hq hkN hI hV hl hk
  · refine lv_tableIn (off := 2254) (tgt := 2294) hx_ hb_ dL_law_40 (by rw [sI_toInt hj, h]; decide) (by rw [sI_toInt hj, h]; decide) (by rw [sI_toInt hj, h]; decide) (by decide) ?_
    exact law_33 E hF_ hlt hX hzb hg hcc hi hq hkN hI hV hl hk
  · refine lv_tableIn (off := 2322) (tgt := 2362) hx_ hb_ dL_law_40 (by rw [sI_toInt hj, h]; decide) (by rw [sI_toInt hj, h]; decide) (by rw [sI_toInt hj, h]; decide) (by decide) ?_
    exact law_34 E hF_ hlt hX hzb hg hcc hi hq hkN hI hV hl hk
  · refine lv_tableIn (off := 2402) (tgt := 2442) hx_ hb_ dL_law_40 (by rw [sI_toInt hj, h]; decide) (by rw [sI_toInt hj, h]; decide) (by rw [sI_toInt hj, h]; decide) (by decide) ?_
    exact law_35 E hF_ hlt hX hzb hg hcc hi hq hkN hI hV hl hk
  · refine lv_tableIn (off := 2482) (tgt := 2522) hx_ hb_ dL_law_40 (by rw [sI_toInt hj, h]; decide) (by rw [sI_toInt hj, h]; decide) (by rw [sI_toInt hj, h]; decide) (by decide) ?_
    exact law_36 E hF_ hlt hX hzb hg hcc hi hq hkN hI hV hl hk
  · refine lv_tableIn (off := 2495) (tgt := 2535) hx_ hb_ dL_law_40 (by rw [sI_toInt hj, h]; decide) (by rw [sI_toInt hj, h]; decide) (by rw [sI_toInt hj, h]; decide) (by decide) ?_
    exact law_37 E hF_ hlt hX hzb hg hcc hi hq hkN hI hV hl hk
  · refine lv_tableIn (off := 2508) (tgt := 2548) hx_ hb_ dL_law_40 (by rw [sI_toInt hj, h]; decide) (by rw [sI_toInt hj, h]; decide) (by rw [sI_toInt hj, h]; decide) (by decide) ?_
    exact law_38 E hF_ hlt hX hzb hg hcc hi hq hkN hI hV hl hk
  · refine lv_tableIn (off := 2564) (tgt := 2604) hx_ hb_ dL_law_40 (by rw [sI_toInt hj, h]; decide) (by rw [sI_toInt hj, h]; decide) (by rw [sI_toInt hj, h]; decide) (by decide) ?_
    exact law_39 E hF_ hlt hX hzb hg hcc hi hq hkN hI hV hl hk
  · refine lv_tableIn (off := 2577) (tgt := 2617) hx_ hb_ dL_law_40 (by rw [sI_toInt hj, h]; decide) (by rw [sI_toInt hj, h]; decide) (by rw [sI_toInt hj, h]; decide) (by decide) ?_
    exact law_40 E hF_ hlt hX hzb hg hcc hi hq hkN hI hV hl hk
  · refine lv_tableIn (off := 2621) (tgt := 2661) hx_ hb_ dL_law_40 (by rw [sI_toInt hj, h]; decide) (by rw [sI_toInt hj, h]; decide) (by rw [sI_toInt hj, h]; decide) (by decide) ?_
    exact law_41 E hF_ hlt hX hzb hg hcc hi hq hkN hI hV hl hk
  · refine lv_tableIn (off := 2634) (tgt := 2674) hx_ hb_ dL_law_40 (by rw [sI_toInt hj, h]; decide) (by rw [sI_toInt hj, h]; decide) (by rw [sI_toInt hj, h]; decide) (by decide) ?_
    exact law_42 E hF_ hlt hX hzb hg hcc hi hq hkN hI hV hl hk
  · refine lv_tableIn (off := 2690) (tgt := 2730) hx_ hb_ dL_law_40 (by rw [sI_toInt hj, h]; decide) (by rw [sI_toInt hj, h]; decide) (by rw [sI_toInt hj, h]; decide) (by decide) ?_
    exact law_43 E hF_ hlt hX hzb hg hcc hi hq hkN hI hV hl hk
  · refine lv_tableIn (off := 2703) (tgt := 2743) hx_ hb_ dL_law_40 (by rw [sI_toInt hj, h]; decide) (by rw [sI_toInt hj, h]; decide) (by rw [sI_toInt hj, h]; decide) (by decide) ?_
    exact law_44 E hF_ hlt hX hzb hg hcc hi hq hkN hI hV hl hk
  · refine lv_tableIn (off := 2716) (tgt := 2756) hx_ hb_ dL_law_40 (by rw [sI_toInt hj, h]; decide) (by rw [sI_toInt hj, h]; decide) (by rw [sI_toInt hj, h]; decide) (by decide) ?_
    exact law_45 E hF_ hlt hX hzb hg hcc hi hq hkN hI hV hl hk
  · refine lv_tableIn (off := 2757) (tgt := 2797) hx_ hb_ dL_law_40 (by rw [sI_toInt hj, h]; decide) (by rw [sI_toInt hj, h]; decide) (by rw [sI_toInt hj, h]; decide) (by decide) ?_
    exact law_46 E hF_ hlt hX hzb hg hcc hi hq hkN hI hV hl hk
  · refine lv_tableIn (off := 2800) (tgt := 2840) hx_ hb_ dL_law_40 (by rw [sI_toInt hj, h]; decide) (by rw [sI_toInt hj, h]; decide) (by rw [sI_toInt hj, h]; decide) (by decide) ?_
    exact law_47 E hF_ hlt hX hzb hg hcc hi hq hkN hI hV hl hk
  · refine lv_tableOut (tgt := 2853) hx_ hb_ dL_law_40 (by rw [sI_toInt hj]; exact h) (by decide) ?_
    exact W.widen (by omega) (by omega) (hk _ _ _ _ _ hkN (lI_s hI) hV hl)
set_option maxHeartbeats 4000000 in
set_option maxRecDepth 100000 in
theorem law_loop {p_ : Program} {l_ : Launch} {e_ : Env} {s_ : State} {m_ : MethodId} {args_ : Array Value} {below_ : List Frame} {meth_ : Method} {c_ : Code} {nm_ : String} {G : sG} {b_ : Nat} {M0 : sM} {N0 : Nat} {Q : State → Prop} (E : sE p_ l_ e_ room_1 s_ m_ args_ below_ meth_ c_ cL_law 9 wsL_law RL nm_ (some .boolean) G b_ M0 N0) (hF_ : xcF s_) (hlt : l_.stackTraces = false) {z L : Nat} {xs : Nat → Int32} (hX : va_X z L xs s_ s_.heap) (hzb : z < b_) {c m o kb : Nat} (hg : c + 60 ≤ m ∧ m + 16 ≤ o ∧ o < kb) (hL : (L : Int) ≤ 3072)
    (hend : ∀ (M1 : sM) (N1 : Nat) (H1 : Heap) (locs1 : List Loc) (ls1 : Array Slot), sV G b_ M1 N1 s_ H1 locs1 → W p_ l_ e_ room_1 s_ m_ args_ below_ meth_ c_ H1 locs1 601024 7293034 Q (F0 m_ 2859 ls1 [])) : ∀ (n q : Nat), q + n = 512 → ∀ (M : sM) (N : Nat) (H : Heap) (locs : List Loc) (ls : Array Slot), kb ≤ N → lI G M c m o kb (q : Int) → sV G b_ M N s_ H locs → lv_has ls 9 [(0, .ref z), (1, .ref c), (2, .ref m), (3, .ref o), (4, .int (sI (6 * (q : Int))))] → W p_ l_ e_ room_1 s_ m_ args_ below_ meth_ c_ H locs (78 + 1170 * q) (32749 + 14000 * q) Q (F0 m_ 23 ls []) := by
  have S := E.1
  have hx_ := S.1
  have hb_ := S.2.1
  have hrc : room_1.cells = 601024 := rfl
  have hrs : room_1.slots = 7293034 := rfl
  intro n
  induction n with
  | zero =>
    intro q hq M N H locs ls hkN hI hV hl
    refine lv_iload hx_ hb_ dL_law_23 (lv_at hl 4 rfl) ?_
    refine lv_aload_n hx_ hb_ dL_law_25 rfl (lv_at hl 0 rfl) ?_
    refine sc_slen S hV hX hzb dL_law_26 ?_
    refine si_bipush S dL_law_27 (by decide) ?_
    refine si_sub S dL_law_29 ?_
    refine sb_gt (tgt := 2859) S dL_law_30 (by decide) (by omega) (fun c1 => ?_) (fun c1 => absurd c1 (by omega))
    exact W.widen (by omega) (by omega) (hend _ _ _ _ _ hV)
  | succ n ih =>
    intro q hq M N H locs ls hkN hI hV hl
    refine lv_iload hx_ hb_ dL_law_23 (lv_at hl 4 rfl) ?_
    refine lv_aload_n hx_ hb_ dL_law_25 rfl (lv_at hl 0 rfl) ?_
    refine sc_slen S hV hX hzb dL_law_26 ?_
    refine si_bipush S dL_law_27 (by decide) ?_
    refine si_sub S dL_law_29 ?_
    refine sb_gt (tgt := 2859) S dL_law_30 (by decide) (by omega) (fun c1 => ?_) (fun c1 => ?_)
    · exact W.widen (by omega) (by omega) (hend _ _ _ _ _ hV)
    · refine law_go (cc_ := 78 + 1170 * q) (ss_ := 32749 + 14000 * q) (q := (q : Int)) (i := 6 * (q : Int)) E hF_ hlt hX hzb hg ⟨by omega, by omega⟩ (by omega) (by omega) hkN hI hV hl (fun M1 N1 H1 locs1 ls1 hk1 hI1 hV1 hl1 => ?_)
      refine si_inc (lv' := [(4, .int (sI (6 * (q : Int) + 6))), (0, .ref z), (1, .ref c), (2, .ref m), (3, .ref o)]) S dL_law_2853 hl1 (k := 4) rfl (by decide) rfl (fun ls hl => ?_)
      refine lv_goto (tgt := 23) hx_ hb_ dL_law_2856 (by decide) ?_
      have e1 : ((q + 1 : Nat) : Int) = (q : Int) + 1 := by omega
      have e2 : 6 * ((q + 1 : Nat) : Int) = 6 * (q : Int) + 6 := by omega
      exact W.widen (by omega) (by omega) (ih (q + 1) (by omega) M1 N1 H1 locs1 ls hk1 (by rw [e1]; exact hI1) hV1 (by rw [e2]; exact lv_sub hl [1, 2, 3, 4, 0] rfl))
