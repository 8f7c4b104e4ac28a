set_option maxHeartbeats 4000000 in
set_option maxRecDepth 100000 in
theorem law_24 {p_ : Program} {l_ : Launch} {e_ : Env} {s_ : State} {m_ : MethodId} {args_ : Array Value} {below_ : List Frame} {meth_ : Method} {c_ : Code} {nm_ : String} {G : sG} {b_ : Nat} {M0 : sM} {N0 : Nat} {Q : State → Prop} (E : sE p_ l_ e_ room_1 s_ m_ args_ below_ meth_ c_ cL_law 9 wsL_law RL nm_ (some .boolean) G b_ M0 N0) (hF_ : xcF s_) (hlt : l_.stackTraces = false) {z L : Nat} {xs : Nat → Int32} (hX : va_X z L xs s_ s_.heap) (hzb : z < b_) {c m o kb : Nat} (hg : c + 60 ≤ m ∧ m + 16 ≤ o ∧ o < kb) {cc_ ss_ : Nat} (hcc : cc_ + 1170 ≤ room_1.cells ∧ ss_ + 14000 ≤ room_1.slots) {q i : Int} (hi : 0 ≤ i ∧ i + 6 ≤ L ∧ (L : Int) ≤ 3072) (hq : 0 ≤ q ∧ q ≤ 600) {M : sM} {N : Nat} (hkN : kb ≤ N) (hI : lI G M c m o kb q) {H : Heap} {locs : List Loc} {ls : Array Slot} (hV : sV G b_ M N s_ H locs) (hl : lv_has ls 9 [(0, .ref z), (1, .ref c), (2, .ref m), (3, .ref o), (4, .int (sI i))])
    (hk : ∀ (M1 : sM) (N1 : Nat) (H1 : Heap) (locs1 : List Loc) (ls1 : Array Slot), kb ≤ N1 → lI G M1 c m o kb (q + 1) → sV G b_ M1 N1 s_ H1 locs1 → lv_has ls1 9 [(0, .ref z), (1, .ref c), (2, .ref m), (3, .ref o), (4, .int (sI i))] → W p_ l_ e_ room_1 s_ m_ args_ below_ meth_ c_ H1 locs1 (cc_ + 1170) (ss_ + 14000) Q (F0 m_ 2853 ls1 [])) : W p_ l_ e_ room_1 s_ m_ args_ below_ meth_ c_ H locs cc_ ss_ Q (F0 m_ 1666 ls []) := by
  have S := E.1
  have hx_ := S.1
  have hb_ := S.2.1
  have hK := E.2.2.2.2.1
  have hI2 := hI
  obtain ⟨kn, ch, f, fs, tn, te, t, wc, wn, T, T2, th, sn, nm, g0, A4, A5, A6, A7, A8, A9, A10, A11, A12, A13, A14, hc0, hst, htr, hkp, ht0, ht1, hct, hft, hly, hkn, hex, hm0, hm1, hsv, hm3, hm4, hm5, hm6, hm7, hm8, hm9, hm10, hm11, hm12, hm13, hm14, hm15, ho9, hlF, htp, hwr⟩ := hI2
  have hok := hlF.1.1
  have hdI := hlF.1.2.1
  have hsL := hlF.1.2.2.1
  have hclk := hlF.1.2.2.2
  have hchr : 0 ≤ ch ∧ ch ≤ 15 := ⟨hkp.r.2.2.1, hkp.r.2.2.2⟩
  have htp1 := htp.1
  have htp2 := htp.2.1
  have hwq := wrQ_e hwr
  have hwq1 := hwq.1
  have hwq2 := hwq.2.1
  have kn0 := sOk_N hok
  refine lv_aload_n hx_ hb_ dL_law_1666 rfl (lv_at hl 1 rfl) ?_
  refine sk_VP E hV (As := []) (rest := []) (kX10_time l_ G b_ M N c kn ch f hc0 hst) (cwV 0 S.2.2.2.2 gL_law_X10_time rfl rfl rfl (by decide +kernel) ⟨Nat.le_of_ble_eq_true rfl, Nat.le_of_ble_eq_true rfl⟩) (ci := 8) hc0 rfl rfl rfl hl.1 (Nat.le_of_ble_eq_true rfl) dL_law_1667 (c1 := cc_ + 0) (s1 := ss_ + 0) ⟨⟨rfl, rfl⟩, by omega, by omega⟩ (fun H locs hV => ?_)
  refine lv_aload_n hx_ hb_ dL_law_1670 rfl (lv_at hl 2 rfl) ?_
  refine sk_Vi E hV (As := []) (rest := [.int (sI (f 571))]) (kX11_time l_ G b_ M N m th ch tn te sn nm wn f hm0 hm1) (cwV 0 S.2.2.2.2 gL_law_X11_time rfl rfl rfl (by decide +kernel) ⟨Nat.le_of_ble_eq_true rfl, Nat.le_of_ble_eq_true rfl⟩) (ci := 9) hm0 rfl rfl rfl hl.1 (Nat.le_of_ble_eq_true rfl) dL_law_1671 (c1 := cc_ + 0) (s1 := ss_ + 0) ⟨⟨rfl, rfl⟩, by omega, by omega⟩ (fun z4 M1 N2 H locs hp3 hV => ?_)
  obtain ⟨ez5, hN6, hc7, hf8⟩ := hp3
  rw [hN6] at hV
  rw [ez5]
  refine sb_eq1 (tgt := 2853) S (rfl) dL_law_1674 (by decide) ?_
  have gb10 : ∀ x : Nat, (x < m ∨ m + 16 ≤ x) → M1 x = M x := fun x u1 => hf8 x (by omega)
  have hc9 : M1 c = some (xO c kn ch) := (gb10 c (by omega)).trans hc0
  have hc11 : stC G M1 (c + 1) f := hst.fr (fun x q8 q9 => gb10 x (by omega))
  have hc12 : triC G M1 (c + 16) := htr.fr (fun x q8 q9 => gb10 x (by omega))
  have hc13 : kpC G M1 (c + 31) kb kn ch fs := hkp.fr (fun x q8 => gb10 x (by omega))
  have hc14 : M1 (c + 32) = some (sObj 7 [.ref (c + 33), .int (sI tn), .int (sI te)]) := (gb10 ((c + 32)) (by omega)).trans ht0
  have hc15 : M1 (c + 33) = some (sArr G 300 t) := (gb10 ((c + 33)) (by omega)).trans ht1
  have hc16 : catC G M1 (c + 34) wc T := hct.fr (fun x q8 q9 => gb10 x (by omega))
  have hc17 : orfC G M1 (c + 38) := hft.fr (fun x q8 q9 => gb10 x (by omega))
  have hc18 : layC G M1 (c + 48) := hly.fr (fun x q8 q9 => gb10 x (by omega))
  have hc19 : knoC G M1 (c + 54) := hkn.fr (fun x q8 q9 => gb10 x (by omega))
  have hc20 : excC G M1 (c + 57) := hex.fr (fun x q8 q9 => gb10 x (by omega))
  have hc21 : M1 (m + 1) = some (sArr G 574 f) := (hf8 (m + 1) (by omega)).trans hm1
  have hc22 : svC G M1 (m + 2) ch fs := hsv.fr (fun x q8 q9 => hf8 x (by omega))
  have hc23 : M1 (m + 3) = some (sArr G 300 t) := (hf8 (m + 3) (by omega)).trans hm3
  have hc24 : M1 (m + 4) = some (sArr G 11 A4) := (hf8 (m + 4) (by omega)).trans hm4
  have hc25 : M1 (m + 5) = some (sArr G 1024 A5) := (hf8 (m + 5) (by omega)).trans hm5
  have hc26 : M1 (m + 6) = some (sArr G 1024 A6) := (hf8 (m + 6) (by omega)).trans hm6
  have hc27 : M1 (m + 7) = some (sArr G 10 A7) := (hf8 (m + 7) (by omega)).trans hm7
  have hc28 : M1 (m + 8) = some (sArr G 10 A8) := (hf8 (m + 8) (by omega)).trans hm8
  have hc29 : M1 (m + 9) = some (sArr G 62 A9) := (hf8 (m + 9) (by omega)).trans hm9
  have hc30 : M1 (m + 10) = some (sArr G 8 A10) := (hf8 (m + 10) (by omega)).trans hm10
  have hc31 : M1 (m + 11) = some (sArr G 8 A11) := (hf8 (m + 11) (by omega)).trans hm11
  have hc32 : M1 (m + 12) = some (sArr G 60 A12) := (hf8 (m + 12) (by omega)).trans hm12
  have hc33 : M1 (m + 13) = some (sArr G 240 A13) := (hf8 (m + 13) (by omega)).trans hm13
  have hc34 : M1 (m + 14) = some (sArr G 574 A14) := (hf8 (m + 14) (by omega)).trans hm14
  have hc35 : M1 (m + 15) = some (sArr G 200 T2) := (hf8 (m + 15) (by omega)).trans hm15
  have hc36 : M1 o = some (sArL G 1 g0) := (gb10 o (by omega)).trans ho9
  exact W.widen (by omega) (by omega) (hk _ _ _ _ _ (by omega) ⟨_, _, _, _, _, _, _, _, _, _, _, _, _, _, _, _, _, _, _, _, _, _, _, _, _, _, hc9, hc11, hc12, hc13, hc14, hc15, hc16, hc17, hc18, hc19, hc20, hc7, hc21, hc22, hc23, hc24, hc25, hc26, hc27, hc28, hc29, hc30, hc31, hc32, hc33, hc34, hc35, hc36, lF_s hlF, htp, hwr⟩ hV (lv_sub hl [0, 1, 2, 3, 4] rfl))

theorem nx_handOn_0_1 {s : Int} {f : sF} {d : Int} {t : Int} (h1 : ¬ (0 ≤ s ∧ s < f 568)) (h2 : (0 ≤ s ∧ s < f 568) ∧ ¬ (isDt d ∧ 0 ≤ t ∧ t ≤ f 571)) : False := by
  first
  | omega
  | (simp_all; done)
  | (simp_all; omega)
theorem nx_handOn_0_2 {s : Int} {f : sF} {d : Int} {t : Int} (h1 : ¬ (0 ≤ s ∧ s < f 568)) (h2 : (0 ≤ s ∧ s < f 568) ∧ isDt d ∧ 0 ≤ t ∧ t ≤ f 571) : False := by
  first
  | omega
  | (simp_all; done)
  | (simp_all; omega)
theorem nx_handOn_1_0 {s : Int} {f : sF} {d : Int} {t : Int} (h1 : (0 ≤ s ∧ s < f 568) ∧ ¬ (isDt d ∧ 0 ≤ t ∧ t ≤ f 571)) (h2 : ¬ (0 ≤ s ∧ s < f 568)) : False := by
  first
  | omega
  | (simp_all; done)
  | (simp_all; omega)
theorem nx_handOn_1_2 {s : Int} {f : sF} {d : Int} {t : Int} (h1 : (0 ≤ s ∧ s < f 568) ∧ ¬ (isDt d ∧ 0 ≤ t ∧ t ≤ f 571)) (h2 : (0 ≤ s ∧ s < f 568) ∧ isDt d ∧ 0 ≤ t ∧ t ≤ f 571) : False := by
  first
  | omega
  | (simp_all; done)
  | (simp_all; omega)
theorem nx_handOn_2_0 {s : Int} {f : sF} {d : Int} {t : Int} (h1 : (0 ≤ s ∧ s < f 568) ∧ isDt d ∧ 0 ≤ t ∧ t ≤ f 571) (h2 : ¬ (0 ≤ s ∧ s < f 568)) : False := by
  first
  | omega
  | (simp_all; done)
  | (simp_all; omega)
theorem nx_handOn_2_1 {s : Int} {f : sF} {d : Int} {t : Int} (h1 : (0 ≤ s ∧ s < f 568) ∧ isDt d ∧ 0 ≤ t ∧ t ≤ f 571) (h2 : (0 ≤ s ∧ s < f 568) ∧ ¬ (isDt d ∧ 0 ≤ t ∧ t ≤ f 571)) : False := by
  first
  | omega
  | (simp_all; done)
  | (simp_all; omega)
set_option maxHeartbeats 4000000 in
set_option maxRecDepth 100000 in
theorem law_25 {p_ : Program} {l_ : Launch} {e_ : Env} {s_ : State} {m_ : MethodId} {args_ : Array Value} {below_ : List Frame} {meth_ : Method} {c_ : Code} {nm_ : String} {G : sG} {b_ : Nat} {M0 : sM} {N0 : Nat} {Q : State → Prop} (E : sE p_ l_ e_ room_1 s_ m_ args_ below_ meth_ c_ cL_law 9 wsL_law RL nm_ (some .boolean) G b_ M0 N0) (hF_ : xcF s_) (hlt : l_.stackTraces = false) {z L : Nat} {xs : Nat → Int32} (hX : va_X z L xs s_ s_.heap) (hzb : z < b_) {c m o kb : Nat} (hg : c + 60 ≤ m ∧ m + 16 ≤ o ∧ o < kb) {cc_ ss_ : Nat} (hcc : cc_ + 1170 ≤ room_1.cells ∧ ss_ + 14000 ≤ room_1.slots) {q i : Int} (hi : 0 ≤ i ∧ i + 6 ≤ L ∧ (L : Int) ≤ 3072) (hq : 0 ≤ q ∧ q ≤ 600) {M : sM} {N : Nat} (hkN : kb ≤ N) (hI : lI G M c m o kb q) {H : Heap} {locs : List Loc} {ls : Array Slot} (hV : sV G b_ M N s_ H locs) (hl : lv_has ls 9 [(0, .ref z), (1, .ref c), (2, .ref m), (3, .ref o), (4, .int (sI i))])
    (hk : ∀ (M1 : sM) (N1 : Nat) (H1 : Heap) (locs1 : List Loc) (ls1 : Array Slot), kb ≤ N1 → lI G M1 c m o kb (q + 1) → sV G b_ M1 N1 s_ H1 locs1 → lv_has ls1 9 [(0, .ref z), (1, .ref c), (2, .ref m), (3, .ref o), (4, .int (sI i))] → W p_ l_ e_ room_1 s_ m_ args_ below_ meth_ c_ H1 locs1 (cc_ + 1170) (ss_ + 14000) Q (F0 m_ 2853 ls1 [])) : W p_ l_ e_ room_1 s_ m_ args_ below_ meth_ c_ H locs cc_ ss_ Q (F0 m_ 1679 ls []) := by
  have S := E.1
  have hx_ := S.1
  have hb_ := S.2.1
  have hK := E.2.2.2.2.1
  have hI2 := hI
  obtain ⟨kn, ch, f, fs, tn, te, t, wc, wn, T, T2, th, sn, nm, g0, A4, A5, A6, A7, A8, A9, A10, A11, A12, A13, A14, hc0, hst, htr, hkp, ht0, ht1, hct, hft, hly, hkn, hex, hm0, hm1, hsv, hm3, hm4, hm5, hm6, hm7, hm8, hm9, hm10, hm11, hm12, hm13, hm14, hm15, ho9, hlF, htp, hwr⟩ := hI2
  have hok := hlF.1.1
  have hdI := hlF.1.2.1
  have hsL := hlF.1.2.2.1
  have hclk := hlF.1.2.2.2
  have hchr : 0 ≤ ch ∧ ch ≤ 15 := ⟨hkp.r.2.2.1, hkp.r.2.2.2⟩
  have htp1 := htp.1
  have htp2 := htp.2.1
  have hwq := wrQ_e hwr
  have hwq1 := hwq.1
  have hwq2 := hwq.2.1
  have kn0 := sOk_N hok
  refine lv_aload_n hx_ hb_ dL_law_1679 rfl (lv_at hl 1 rfl) ?_
  refine lv_aload_n hx_ hb_ dL_law_1680 rfl (lv_at hl 0 rfl) ?_
  refine lv_iload hx_ hb_ dL_law_1681 (lv_at hl 4 rfl) ?_
  refine si_const S dL_law_1683 ?_
  refine si_add S dL_law_1684 ?_
  refine sc_sld S hV hX hzb (by omega) dL_law_1685 ?_
  refine lv_aload_n hx_ hb_ dL_law_1686 rfl (lv_at hl 0 rfl) ?_
  refine lv_iload hx_ hb_ dL_law_1687 (lv_at hl 4 rfl) ?_
  refine si_const S dL_law_1689 ?_
  refine si_add S dL_law_1690 ?_
  refine sc_sld S hV hX hzb (by omega) dL_law_1691 ?_
  refine lv_aload_n hx_ hb_ dL_law_1692 rfl (lv_at hl 0 rfl) ?_
  refine lv_iload hx_ hb_ dL_law_1693 (lv_at hl 4 rfl) ?_
  refine si_const S dL_law_1695 ?_
  refine si_add S dL_law_1696 ?_
  refine sc_sld S hV hX hzb (by omega) dL_law_1697 ?_
  refine lv_aload_n hx_ hb_ dL_law_1698 rfl (lv_at hl 3 rfl) ?_
  refine yk_Si (hh := [(0, 12, 15, 25), (0, 12, 19, 19)]) E hF_ hV (As := [.ref c, .int (sI (lX xs (i + 1))), .int (sI (lX xs (i + 2))), .int (sI (lX xs (i + 3))), .ref o]) (rest := []) (kL_handOn l_ G b_ M N o g0 c kn ch f (lX xs (i + 1)) (lX xs (i + 2)) (lX xs (i + 3)) hc0 hst hkn ho9 (hlt) (hok) (⟨lX_r xs _, lX_r xs _, lX_r xs _⟩) (by omega)) (vx_cwSW 5 S.2.2.2.2 gL_law_L_handOn rfl rfl rfl (by decide +kernel) ⟨Nat.le_of_ble_eq_true rfl, Nat.le_of_ble_eq_true rfl⟩) rfl rfl hl.1 (Nat.le_of_ble_eq_true rfl) dL_law_1699 (c1 := cc_ + 10) (s1 := ss_ + 60) ⟨⟨rfl, rfl⟩, by omega, by omega⟩ (fun z4 M1 N2 H locs hp3 hV => ?_)
  obtain ⟨hN5, hc6, hf7, hq8⟩ := hp3
  rcases hq8 with ⟨c9, ez10, hc11⟩ | ⟨c12, ez13, hc14⟩ | ⟨c15, ez16, hc17⟩
  · rw [ez10]
    refine lv_istore (lv' := [(5, .int (sI 1)), (0, .ref z), (1, .ref c), (2, .ref m), (3, .ref o), (4, .int (sI i))]) hx_ hb_ dL_law_1702 hl (by decide) rfl (fun ls hl => ?_)
    refine lv_aload_n hx_ hb_ dL_law_1704 rfl (lv_at hl 3 rfl) ?_
    refine lv_aload_n hx_ hb_ dL_law_1705 rfl (lv_at hl 1 rfl) ?_
    refine lv_iload hx_ hb_ dL_law_1706 (lv_at hl 5 rfl) ?_
    refine si_const S dL_law_1708 ?_
    refine si_add S dL_law_1709 ?_
    refine sc_sld S hV hX hzb (by omega) dL_law_1710 ?_
    refine lv_aload_n hx_ hb_ dL_law_1711 rfl (lv_at hl 1 rfl) ?_
    refine lv_iload hx_ hb_ dL_law_1712 (lv_at hl 5 rfl) ?_
    refine si_const S dL_law_1714 ?_
    refine si_add S dL_law_1715 ?_
    refine sc_sld S hV hX hzb (by omega) dL_law_1716 ?_
    refine lv_aload_n hx_ hb_ dL_law_1717 rfl (lv_at hl 1 rfl) ?_
    refine lv_iload hx_ hb_ dL_law_1718 (lv_at hl 5 rfl) ?_
    refine si_const S dL_law_1720 ?_
    refine si_add S dL_law_1721 ?_
    refine sc_sld S hV hX hzb (by omega) dL_law_1722 ?_
    have ga19 : ∀ x : Nat, m ≤ x → x < m + 16 → M1 x = M x := fun x u1 u2 => hf7 x (by omega) (by omega)
    have hc18 : M1 m = some (mO m th ch tn te sn nm wn) := (ga19 m (by omega) (by omega)).trans hm0
    have hc20 : M1 (m + 1) = some (sArr G 574 f) := (ga19 ((m + 1)) (by omega) (by omega)).trans hm1
    refine sk_Vi E hV (As := [.int (sI (lX xs (i + 1))), .int (sI (lX xs (i + 2))), .int (sI (lX xs (i + 3)))]) (rest := []) (kX11_handOn l_ G b_ M1 N2 m th ch tn te sn nm wn f (lX xs (i + 1)) (lX xs (i + 2)) (lX xs (i + 3)) hc18 hc20 (hok) (⟨lX_r xs _, lX_r xs _, lX_r xs _⟩)) (cwV 3 S.2.2.2.2 gL_law_X11_handOn rfl rfl rfl (by decide +kernel) ⟨Nat.le_of_ble_eq_true rfl, Nat.le_of_ble_eq_true rfl⟩) (ci := 9) hc18 rfl rfl rfl hl.1 (Nat.le_of_ble_eq_true rfl) dL_law_1723 (c1 := cc_ + 10) (s1 := ss_ + 60) ⟨⟨rfl, rfl⟩, by omega, by omega⟩ (fun z24 M21 N22 H locs hp23 hV => ?_)
    obtain ⟨hN25, hf26, hq27⟩ := hp23
    rw [hN25] at hV
    rcases hq27 with ⟨c28, ez29, hc30⟩ | ⟨c31, ez32, hc33⟩ | ⟨c34, ez35, hc36⟩
    · rw [ez29]
      refine lv_istore (lv' := [(6, .int (sI 0)), (5, .int (sI 1)), (0, .ref z), (1, .ref c), (2, .ref m), (3, .ref o), (4, .int (sI i))]) hx_ hb_ dL_law_1726 hl (by decide) rfl (fun ls hl => ?_)
      refine lv_aload_n hx_ hb_ dL_law_1728 rfl (lv_at hl 4 rfl) ?_
      refine sk_VP E hV (As := []) (rest := []) (kX11_thrown l_ G b_ M21 N2 m 1 ch tn te sn nm wn hc30) (cwV 0 S.2.2.2.2 gL_law_X11_thrown rfl rfl rfl (by decide +kernel) ⟨Nat.le_of_ble_eq_true rfl, Nat.le_of_ble_eq_true rfl⟩) (ci := 9) hc30 rfl rfl rfl hl.1 (Nat.le_of_ble_eq_true rfl) dL_law_1729 (c1 := cc_ + 10) (s1 := ss_ + 60) ⟨⟨rfl, rfl⟩, by omega, by omega⟩ (fun H locs hV => ?_)
      refine lv_iload hx_ hb_ dL_law_1732 (lv_at hl 1 rfl) ?_
      refine sb_eq (tgt := 1739) S dL_law_1734 (by decide) (by omega) (fun _ => ?_) (fun c37 => absurd c37 (by omega))
      refine lv_iload hx_ hb_ dL_law_1739 (lv_at hl 1 rfl) ?_
      refine sz_ne (tgt := 1756) S dL_law_1741 (by decide) (by omega) (fun _ => ?_) (fun c38 => absurd c38 (by omega))
      refine lv_goto (tgt := 2853) hx_ hb_ dL_law_1756 (by decide) ?_
      have gb40 : ∀ x : Nat, (x < m ∨ m + 16 ≤ x) → M21 x = M1 x := fun x u1 => hf26 x (by omega)
      have hc39 : M21 c = some (xO c kn ch) := ((gb40 c (by omega)).trans (hf7 c (by omega) (by omega))).trans hc0
      have hc41 : stC G M21 (c + 1) f := hst.fr (fun x q8 q9 => (gb40 x (by omega)).trans (hf7 x (by omega) (by omega)))
      have hc42 : triC G M21 (c + 16) := htr.fr (fun x q8 q9 => (gb40 x (by omega)).trans (hf7 x (by omega) (by omega)))
      have hc43 : kpC G M21 (c + 31) kb kn ch fs := hkp.fr (fun x q8 => (gb40 x (by omega)).trans (hf7 x (by omega) (by omega)))
      have hc44 : M21 (c + 32) = some (sObj 7 [.ref (c + 33), .int (sI tn), .int (sI te)]) := ((gb40 ((c + 32)) (by omega)).trans (hf7 (c + 32) (by omega) (by omega))).trans ht0
      have hc45 : M21 (c + 33) = some (sArr G 300 t) := ((gb40 ((c + 33)) (by omega)).trans (hf7 (c + 33) (by omega) (by omega))).trans ht1
      have hc46 : catC G M21 (c + 34) wc T := hct.fr (fun x q8 q9 => (gb40 x (by omega)).trans (hf7 x (by omega) (by omega)))
      have hc47 : orfC G M21 (c + 38) := hft.fr (fun x q8 q9 => (gb40 x (by omega)).trans (hf7 x (by omega) (by omega)))
      have hc48 : layC G M21 (c + 48) := hly.fr (fun x q8 q9 => (gb40 x (by omega)).trans (hf7 x (by omega) (by omega)))
      have hc49 : knoC G M21 (c + 54) := hc6.fr (fun x q8 q9 => gb40 x (by omega))
      have hc50 : excC G M21 (c + 57) := hex.fr (fun x q8 q9 => (gb40 x (by omega)).trans (hf7 x (by omega) (by omega)))
      have hc51 : M21 (m + 1) = some (sArr G 574 f) := (hf26 (m + 1) (by omega)).trans hc20
      have hc52 : svC G M21 (m + 2) ch fs := hsv.fr (fun x q8 q9 => (hf26 x (by omega)).trans (ga19 x (by omega) (by omega)))
      have hc53 : M21 (m + 3) = some (sArr G 300 t) := ((hf26 (m + 3) (by omega)).trans (ga19 ((m + 3)) (by omega) (by omega))).trans hm3
      have hc54 : M21 (m + 4) = some (sArr G 11 A4) := ((hf26 (m + 4) (by omega)).trans (ga19 ((m + 4)) (by omega) (by omega))).trans hm4
      have hc55 : M21 (m + 5) = some (sArr G 1024 A5) := ((hf26 (m + 5) (by omega)).trans (ga19 ((m + 5)) (by omega) (by omega))).trans hm5
      have hc56 : M21 (m + 6) = some (sArr G 1024 A6) := ((hf26 (m + 6) (by omega)).trans (ga19 ((m + 6)) (by omega) (by omega))).trans hm6
      have hc57 : M21 (m + 7) = some (sArr G 10 A7) := ((hf26 (m + 7) (by omega)).trans (ga19 ((m + 7)) (by omega) (by omega))).trans hm7
      have hc58 : M21 (m + 8) = some (sArr G 10 A8) := ((hf26 (m + 8) (by omega)).trans (ga19 ((m + 8)) (by omega) (by omega))).trans hm8
      have hc59 : M21 (m + 9) = some (sArr G 62 A9) := ((hf26 (m + 9) (by omega)).trans (ga19 ((m + 9)) (by omega) (by omega))).trans hm9
      have hc60 : M21 (m + 10) = some (sArr G 8 A10) := ((hf26 (m + 10) (by omega)).trans (ga19 ((m + 10)) (by omega) (by omega))).trans hm10
      have hc61 : M21 (m + 11) = some (sArr G 8 A11) := ((hf26 (m + 11) (by omega)).trans (ga19 ((m + 11)) (by omega) (by omega))).trans hm11
      have hc62 : M21 (m + 12) = some (sArr G 60 A12) := ((hf26 (m + 12) (by omega)).trans (ga19 ((m + 12)) (by omega) (by omega))).trans hm12
      have hc63 : M21 (m + 13) = some (sArr G 240 A13) := ((hf26 (m + 13) (by omega)).trans (ga19 ((m + 13)) (by omega) (by omega))).trans hm13
      have hc64 : M21 (m + 14) = some (sArr G 574 A14) := ((hf26 (m + 14) (by omega)).trans (ga19 ((m + 14)) (by omega) (by omega))).trans hm14
      have hc65 : M21 (m + 15) = some (sArr G 200 T2) := ((hf26 (m + 15) (by omega)).trans (ga19 ((m + 15)) (by omega) (by omega))).trans hm15
      have hc66 : M21 o = some (sArL G 1 g0) := (gb40 o (by omega)).trans hc11
      exact W.widen (by omega) (by omega) (hk _ _ _ _ _ (by omega) ⟨_, _, _, _, _, _, _, _, _, _, _, _, _, _, _, _, _, _, _, _, _, _, _, _, _, _, hc39, hc41, hc42, hc43, hc44, hc45, hc46, hc47, hc48, hc49, hc50, hc30, hc51, hc52, hc53, hc54, hc55, hc56, hc57, hc58, hc59, hc60, hc61, hc62, hc63, hc64, hc65, hc66, lF_s hlF, htp, hwr⟩ hV (lv_sub hl [2, 3, 4, 5, 6] rfl))
    · rw [ez32]
      exact (nx_handOn_0_1 c9 c31).elim
    · rw [ez35]
      exact (nx_handOn_0_2 c9 c34).elim
  · rw [ez13]
    refine lv_istore (lv' := [(5, .int (sI 2)), (0, .ref z), (1, .ref c), (2, .ref m), (3, .ref o), (4, .int (sI i))]) hx_ hb_ dL_law_1702 hl (by decide) rfl (fun ls hl => ?_)
    refine lv_aload_n hx_ hb_ dL_law_1704 rfl (lv_at hl 3 rfl) ?_
    refine lv_aload_n hx_ hb_ dL_law_1705 rfl (lv_at hl 1 rfl) ?_
    refine lv_iload hx_ hb_ dL_law_1706 (lv_at hl 5 rfl) ?_
    refine si_const S dL_law_1708 ?_
    refine si_add S dL_law_1709 ?_
    refine sc_sld S hV hX hzb (by omega) dL_law_1710 ?_
    refine lv_aload_n hx_ hb_ dL_law_1711 rfl (lv_at hl 1 rfl) ?_
    refine lv_iload hx_ hb_ dL_law_1712 (lv_at hl 5 rfl) ?_
    refine si_const S dL_law_1714 ?_
    refine si_add S dL_law_1715 ?_
    refine sc_sld S hV hX hzb (by omega) dL_law_1716 ?_
    refine lv_aload_n hx_ hb_ dL_law_1717 rfl (lv_at hl 1 rfl) ?_
    refine lv_iload hx_ hb_ dL_law_1718 (lv_at hl 5 rfl) ?_
    refine si_const S dL_law_1720 ?_
    refine si_add S dL_law_1721 ?_
    refine sc_sld S hV hX hzb (by omega) dL_law_1722 ?_
    have ga68 : ∀ x : Nat, m ≤ x → x < m + 16 → M1 x = M x := fun x u1 u2 => hf7 x (by omega) (by omega)
    have hc67 : M1 m = some (mO m th ch tn te sn nm wn) := (ga68 m (by omega) (by omega)).trans hm0
    have hc69 : M1 (m + 1) = some (sArr G 574 f) := (ga68 ((m + 1)) (by omega) (by omega)).trans hm1
    refine sk_Vi E hV (As := [.int (sI (lX xs (i + 1))), .int (sI (lX xs (i + 2))), .int (sI (lX xs (i + 3)))]) (rest := []) (kX11_handOn l_ G b_ M1 N2 m th ch tn te sn nm wn f (lX xs (i + 1)) (lX xs (i + 2)) (lX xs (i + 3)) hc67 hc69 (hok) (⟨lX_r xs _, lX_r xs _, lX_r xs _⟩)) (cwV 3 S.2.2.2.2 gL_law_X11_handOn rfl rfl rfl (by decide +kernel) ⟨Nat.le_of_ble_eq_true rfl, Nat.le_of_ble_eq_true rfl⟩) (ci := 9) hc67 rfl rfl rfl hl.1 (Nat.le_of_ble_eq_true rfl) dL_law_1723 (c1 := cc_ + 10) (s1 := ss_ + 60) ⟨⟨rfl, rfl⟩, by omega, by omega⟩ (fun z73 M70 N71 H locs hp72 hV => ?_)
    obtain ⟨hN74, hf75, hq76⟩ := hp72
    rw [hN74] at hV
    rcases hq76 with ⟨c77, ez78, hc79⟩ | ⟨c80, ez81, hc82⟩ | ⟨c83, ez84, hc85⟩
    · rw [ez78]
      exact (nx_handOn_1_0 c12 c77).elim
    · rw [ez81]
      refine lv_istore (lv' := [(6, .int (sI 0)), (5, .int (sI 2)), (0, .ref z), (1, .ref c), (2, .ref m), (3, .ref o), (4, .int (sI i))]) hx_ hb_ dL_law_1726 hl (by decide) rfl (fun ls hl => ?_)
      refine lv_aload_n hx_ hb_ dL_law_1728 rfl (lv_at hl 4 rfl) ?_
      refine sk_VP E hV (As := []) (rest := []) (kX11_thrown l_ G b_ M70 N2 m 2 ch tn te sn nm wn hc82) (cwV 0 S.2.2.2.2 gL_law_X11_thrown rfl rfl rfl (by decide +kernel) ⟨Nat.le_of_ble_eq_true rfl, Nat.le_of_ble_eq_true rfl⟩) (ci := 9) hc82 rfl rfl rfl hl.1 (Nat.le_of_ble_eq_true rfl) dL_law_1729 (c1 := cc_ + 10) (s1 := ss_ + 60) ⟨⟨rfl, rfl⟩, by omega, by omega⟩ (fun H locs hV => ?_)
      refine lv_iload hx_ hb_ dL_law_1732 (lv_at hl 1 rfl) ?_
      refine sb_eq (tgt := 1739) S dL_law_1734 (by decide) (by omega) (fun _ => ?_) (fun c86 => absurd c86 (by omega))
      refine lv_iload hx_ hb_ dL_law_1739 (lv_at hl 1 rfl) ?_
      refine sz_ne (tgt := 1756) S dL_law_1741 (by decide) (by omega) (fun _ => ?_) (fun c87 => absurd c87 (by omega))
      refine lv_goto (tgt := 2853) hx_ hb_ dL_law_1756 (by decide) ?_
      have gb89 : ∀ x : Nat, (x < m ∨ m + 16 ≤ x) → M70 x = M1 x := fun x u1 => hf75 x (by omega)
      have hc88 : M70 c = some (xO c kn ch) := ((gb89 c (by omega)).trans (hf7 c (by omega) (by omega))).trans hc0
      have hc90 : stC G M70 (c + 1) f := hst.fr (fun x q8 q9 => (gb89 x (by omega)).trans (hf7 x (by omega) (by omega)))
      have hc91 : triC G M70 (c + 16) := htr.fr (fun x q8 q9 => (gb89 x (by omega)).trans (hf7 x (by omega) (by omega)))
      have hc92 : kpC G M70 (c + 31) kb kn ch fs := hkp.fr (fun x q8 => (gb89 x (by omega)).trans (hf7 x (by omega) (by omega)))
      have hc93 : M70 (c + 32) = some (sObj 7 [.ref (c + 33), .int (sI tn), .int (sI te)]) := ((gb89 ((c + 32)) (by omega)).trans (hf7 (c + 32) (by omega) (by omega))).trans ht0
      have hc94 : M70 (c + 33) = some (sArr G 300 t) := ((gb89 ((c + 33)) (by omega)).trans (hf7 (c + 33) (by omega) (by omega))).trans ht1
      have hc95 : catC G M70 (c + 34) wc T := hct.fr (fun x q8 q9 => (gb89 x (by omega)).trans (hf7 x (by omega) (by omega)))
      have hc96 : orfC G M70 (c + 38) := hft.fr (fun x q8 q9 => (gb89 x (by omega)).trans (hf7 x (by omega) (by omega)))
      have hc97 : layC G M70 (c + 48) := hly.fr (fun x q8 q9 => (gb89 x (by omega)).trans (hf7 x (by omega) (by omega)))
      have hc98 : knoC G M70 (c + 54) := hc6.fr (fun x q8 q9 => gb89 x (by omega))
      have hc99 : excC G M70 (c + 57) := hex.fr (fun x q8 q9 => (gb89 x (by omega)).trans (hf7 x (by omega) (by omega)))
      have hc100 : M70 (m + 1) = some (sArr G 574 f) := (hf75 (m + 1) (by omega)).trans hc69
      have hc101 : svC G M70 (m + 2) ch fs := hsv.fr (fun x q8 q9 => (hf75 x (by omega)).trans (ga68 x (by omega) (by omega)))
      have hc102 : M70 (m + 3) = some (sArr G 300 t) := ((hf75 (m + 3) (by omega)).trans (ga68 ((m + 3)) (by omega) (by omega))).trans hm3
      have hc103 : M70 (m + 4) = some (sArr G 11 A4) := ((hf75 (m + 4) (by omega)).trans (ga68 ((m + 4)) (by omega) (by omega))).trans hm4
      have hc104 : M70 (m + 5) = some (sArr G 1024 A5) := ((hf75 (m + 5) (by omega)).trans (ga68 ((m + 5)) (by omega) (by omega))).trans hm5
      have hc105 : M70 (m + 6) = some (sArr G 1024 A6) := ((hf75 (m + 6) (by omega)).trans (ga68 ((m + 6)) (by omega) (by omega))).trans hm6
      have hc106 : M70 (m + 7) = some (sArr G 10 A7) := ((hf75 (m + 7) (by omega)).trans (ga68 ((m + 7)) (by omega) (by omega))).trans hm7
      have hc107 : M70 (m + 8) = some (sArr G 10 A8) := ((hf75 (m + 8) (by omega)).trans (ga68 ((m + 8)) (by omega) (by omega))).trans hm8
      have hc108 : M70 (m + 9) = some (sArr G 62 A9) := ((hf75 (m + 9) (by omega)).trans (ga68 ((m + 9)) (by omega) (by omega))).trans hm9
      have hc109 : M70 (m + 10) = some (sArr G 8 A10) := ((hf75 (m + 10) (by omega)).trans (ga68 ((m + 10)) (by omega) (by omega))).trans hm10
      have hc110 : M70 (m + 11) = some (sArr G 8 A11) := ((hf75 (m + 11) (by omega)).trans (ga68 ((m + 11)) (by omega) (by omega))).trans hm11
      have hc111 : M70 (m + 12) = some (sArr G 60 A12) := ((hf75 (m + 12) (by omega)).trans (ga68 ((m + 12)) (by omega) (by omega))).trans hm12
      have hc112 : M70 (m + 13) = some (sArr G 240 A13) := ((hf75 (m + 13) (by omega)).trans (ga68 ((m + 13)) (by omega) (by omega))).trans hm13
      have hc113 : M70 (m + 14) = some (sArr G 574 A14) := ((hf75 (m + 14) (by omega)).trans (ga68 ((m + 14)) (by omega) (by omega))).trans hm14
      have hc114 : M70 (m + 15) = some (sArr G 200 T2) := ((hf75 (m + 15) (by omega)).trans (ga68 ((m + 15)) (by omega) (by omega))).trans hm15
      have hc115 : M70 o = some (sArL G 1 g0) := (gb89 o (by omega)).trans hc14
      exact W.widen (by omega) (by omega) (hk _ _ _ _ _ (by omega) ⟨_, _, _, _, _, _, _, _, _, _, _, _, _, _, _, _, _, _, _, _, _, _, _, _, _, _, hc88, hc90, hc91, hc92, hc93, hc94, hc95, hc96, hc97, hc98, hc99, hc82, hc100, hc101, hc102, hc103, hc104, hc105, hc106, hc107, hc108, hc109, hc110, hc111, hc112, hc113, hc114, hc115, lF_s hlF, htp, hwr⟩ hV (lv_sub hl [2, 3, 4, 5, 6] rfl))
    · rw [ez84]
      exact (nx_handOn_1_2 c12 c83).elim
  · rw [ez16]
    refine lv_istore (lv' := [(5, .int (sI 0)), (0, .ref z), (1, .ref c), (2, .ref m), (3, .ref o), (4, .int (sI i))]) hx_ hb_ dL_law_1702 hl (by decide) rfl (fun ls hl => ?_)
    refine lv_aload_n hx_ hb_ dL_law_1704 rfl (lv_at hl 3 rfl) ?_
    refine lv_aload_n hx_ hb_ dL_law_1705 rfl (lv_at hl 1 rfl) ?_
    refine lv_iload hx_ hb_ dL_law_1706 (lv_at hl 5 rfl) ?_
    refine si_const S dL_law_1708 ?_
    refine si_add S dL_law_1709 ?_
    refine sc_sld S hV hX hzb (by omega) dL_law_1710 ?_
    refine lv_aload_n hx_ hb_ dL_law_1711 rfl (lv_at hl 1 rfl) ?_
    refine lv_iload hx_ hb_ dL_law_1712 (lv_at hl 5 rfl) ?_
    refine si_const S dL_law_1714 ?_
    refine si_add S dL_law_1715 ?_
    refine sc_sld S hV hX hzb (by omega) dL_law_1716 ?_
    refine lv_aload_n hx_ hb_ dL_law_1717 rfl (lv_at hl 1 rfl) ?_
    refine lv_iload hx_ hb_ dL_law_1718 (lv_at hl 5 rfl) ?_
    refine si_const S dL_law_1720 ?_
    refine si_add S dL_law_1721 ?_
    refine sc_sld S hV hX hzb (by omega) dL_law_1722 ?_
    have ga117 : ∀ x : Nat, m ≤ x → x < m + 16 → M1 x = M x := fun x u1 u2 => hf7 x (by omega) (by omega)
    have hc116 : M1 m = some (mO m th ch tn te sn nm wn) := (ga117 m (by omega) (by omega)).trans hm0
    have hc118 : M1 (m + 1) = some (sArr G 574 f) := (ga117 ((m + 1)) (by omega) (by omega)).trans hm1
    refine sk_Vi E hV (As := [.int (sI (lX xs (i + 1))), .int (sI (lX xs (i + 2))), .int (sI (lX xs (i + 3)))]) (rest := []) (kX11_handOn l_ G b_ M1 N2 m th ch tn te sn nm wn f (lX xs (i + 1)) (lX xs (i + 2)) (lX xs (i + 3)) hc116 hc118 (hok) (⟨lX_r xs _, lX_r xs _, lX_r xs _⟩)) (cwV 3 S.2.2.2.2 gL_law_X11_handOn rfl rfl rfl (by decide +kernel) ⟨Nat.le_of_ble_eq_true rfl, Nat.le_of_ble_eq_true rfl⟩) (ci := 9) hc116 rfl rfl rfl hl.1 (Nat.le_of_ble_eq_true rfl) dL_law_1723 (c1 := cc_ + 10) (s1 := ss_ + 60) ⟨⟨rfl, rfl⟩, by omega, by omega⟩ (fun z122 M119 N120 H locs hp121 hV => ?_)
    obtain ⟨hN123, hf124, hq125⟩ := hp121
    rw [hN123] at hV
    rcases hq125 with ⟨c126, ez127, hc128⟩ | ⟨c129, ez130, hc131⟩ | ⟨c132, ez133, hc134⟩
    · rw [ez127]
      exact (nx_handOn_2_0 c15 c126).elim
    · rw [ez130]
      exact (nx_handOn_2_1 c15 c129).elim
    · rw [ez133]
      refine lv_istore (lv' := [(6, .int (sI (hnd f (lX xs (i + 1)) (dayI (lX xs (i + 2)) + 3652) (lX xs (i + 3))))), (5, .int (sI 0)), (0, .ref z), (1, .ref c), (2, .ref m), (3, .ref o), (4, .int (sI i))]) hx_ hb_ dL_law_1726 hl (by decide) rfl (fun ls hl => ?_)
      refine lv_aload_n hx_ hb_ dL_law_1728 rfl (lv_at hl 4 rfl) ?_
      refine sk_VP E hV (As := []) (rest := []) (kX11_thrown l_ G b_ M119 N2 m 0 ch tn te sn nm wn hc134) (cwV 0 S.2.2.2.2 gL_law_X11_thrown rfl rfl rfl (by decide +kernel) ⟨Nat.le_of_ble_eq_true rfl, Nat.le_of_ble_eq_true rfl⟩) (ci := 9) hc134 rfl rfl rfl hl.1 (Nat.le_of_ble_eq_true rfl) dL_law_1729 (c1 := cc_ + 10) (s1 := ss_ + 60) ⟨⟨rfl, rfl⟩, by omega, by omega⟩ (fun H locs hV => ?_)
      refine lv_iload hx_ hb_ dL_law_1732 (lv_at hl 1 rfl) ?_
      refine sb_eq (tgt := 1739) S dL_law_1734 (by decide) (by omega) (fun _ => ?_) (fun c135 => absurd c135 (by omega))
      refine lv_iload hx_ hb_ dL_law_1739 (lv_at hl 1 rfl) ?_
      refine sz_ne (tgt := 1756) S dL_law_1741 (by decide) (by omega) (fun c136 => absurd c136 (by omega)) (fun _ => ?_)
      refine lv_aload_n hx_ hb_ dL_law_1744 rfl (lv_at hl 5 rfl) ?_
      refine si_const S dL_law_1745 ?_
      have gb138 : ∀ x : Nat, (x < m ∨ m + 16 ≤ x) → M119 x = M1 x := fun x u1 => hf124 x (by omega)
      have hc137 : M119 o = some (sArL G 1 (iup g0 0 (sW (hnd f (lX xs (i + 1)) (dayI (lX xs (i + 2)) + 3652) (lX xs (i + 3)))))) := (gb138 o (by omega)).trans hc17
      refine sc_lald S hK hV hc137 (by omega) dL_law_1746 ?_
      rw [show (iup g0 0 (sW (hnd f (lX xs (i + 1)) (dayI (lX xs (i + 2)) + 3652) (lX xs (i + 3))))) 0 = sW (hnd f (lX xs (i + 1)) (dayI (lX xs (i + 2)) + 3652) (lX xs (i + 3))) from if_pos rfl]
      refine lv_iload hx_ hb_ dL_law_1747 (lv_at hl 0 rfl) ?_
      refine sl_i2w S dL_law_1749 ?_
      refine sl_cmp0 S (rfl) dL_law_1750 ?_
      refine sz_eq (tgt := 1756) S dL_law_1751 (by decide) (by omega) (fun _ => ?_) (fun c139 => absurd c139 (by omega))
      refine lv_goto (tgt := 2853) hx_ hb_ dL_law_1756 (by decide) ?_
      have hc140 : M119 c = some (xO c kn ch) := ((gb138 c (by omega)).trans (hf7 c (by omega) (by omega))).trans hc0
      have hc141 : stC G M119 (c + 1) f := hst.fr (fun x q8 q9 => (gb138 x (by omega)).trans (hf7 x (by omega) (by omega)))
      have hc142 : triC G M119 (c + 16) := htr.fr (fun x q8 q9 => (gb138 x (by omega)).trans (hf7 x (by omega) (by omega)))
      have hc143 : kpC G M119 (c + 31) kb kn ch fs := hkp.fr (fun x q8 => (gb138 x (by omega)).trans (hf7 x (by omega) (by omega)))
      have hc144 : M119 (c + 32) = some (sObj 7 [.ref (c + 33), .int (sI tn), .int (sI te)]) := ((gb138 ((c + 32)) (by omega)).trans (hf7 (c + 32) (by omega) (by omega))).trans ht0
      have hc145 : M119 (c + 33) = some (sArr G 300 t) := ((gb138 ((c + 33)) (by omega)).trans (hf7 (c + 33) (by omega) (by omega))).trans ht1
      have hc146 : catC G M119 (c + 34) wc T := hct.fr (fun x q8 q9 => (gb138 x (by omega)).trans (hf7 x (by omega) (by omega)))
      have hc147 : orfC G M119 (c + 38) := hft.fr (fun x q8 q9 => (gb138 x (by omega)).trans (hf7 x (by omega) (by omega)))
      have hc148 : layC G M119 (c + 48) := hly.fr (fun x q8 q9 => (gb138 x (by omega)).trans (hf7 x (by omega) (by omega)))
      have hc149 : knoC G M119 (c + 54) := hc6.fr (fun x q8 q9 => gb138 x (by omega))
      have hc150 : excC G M119 (c + 57) := hex.fr (fun x q8 q9 => (gb138 x (by omega)).trans (hf7 x (by omega) (by omega)))
      have hc151 : M119 (m + 1) = some (sArr G 574 f) := (hf124 (m + 1) (by omega)).trans hc118
      have hc152 : svC G M119 (m + 2) ch fs := hsv.fr (fun x q8 q9 => (hf124 x (by omega)).trans (ga117 x (by omega) (by omega)))
      have hc153 : M119 (m + 3) = some (sArr G 300 t) := ((hf124 (m + 3) (by omega)).trans (ga117 ((m + 3)) (by omega) (by omega))).trans hm3
      have hc154 : M119 (m + 4) = some (sArr G 11 A4) := ((hf124 (m + 4) (by omega)).trans (ga117 ((m + 4)) (by omega) (by omega))).trans hm4
      have hc155 : M119 (m + 5) = some (sArr G 1024 A5) := ((hf124 (m + 5) (by omega)).trans (ga117 ((m + 5)) (by omega) (by omega))).trans hm5
      have hc156 : M119 (m + 6) = some (sArr G 1024 A6) := ((hf124 (m + 6) (by omega)).trans (ga117 ((m + 6)) (by omega) (by omega))).trans hm6
      have hc157 : M119 (m + 7) = some (sArr G 10 A7) := ((hf124 (m + 7) (by omega)).trans (ga117 ((m + 7)) (by omega) (by omega))).trans hm7
      have hc158 : M119 (m + 8) = some (sArr G 10 A8) := ((hf124 (m + 8) (by omega)).trans (ga117 ((m + 8)) (by omega) (by omega))).trans hm8
      have hc159 : M119 (m + 9) = some (sArr G 62 A9) := ((hf124 (m + 9) (by omega)).trans (ga117 ((m + 9)) (by omega) (by omega))).trans hm9
      have hc160 : M119 (m + 10) = some (sArr G 8 A10) := ((hf124 (m + 10) (by omega)).trans (ga117 ((m + 10)) (by omega) (by omega))).trans hm10
      have hc161 : M119 (m + 11) = some (sArr G 8 A11) := ((hf124 (m + 11) (by omega)).trans (ga117 ((m + 11)) (by omega) (by omega))).trans hm11
      have hc162 : M119 (m + 12) = some (sArr G 60 A12) := ((hf124 (m + 12) (by omega)).trans (ga117 ((m + 12)) (by omega) (by omega))).trans hm12
      have hc163 : M119 (m + 13) = some (sArr G 240 A13) := ((hf124 (m + 13) (by omega)).trans (ga117 ((m + 13)) (by omega) (by omega))).trans hm13
      have hc164 : M119 (m + 14) = some (sArr G 574 A14) := ((hf124 (m + 14) (by omega)).trans (ga117 ((m + 14)) (by omega) (by omega))).trans hm14
      have hc165 : M119 (m + 15) = some (sArr G 200 T2) := ((hf124 (m + 15) (by omega)).trans (ga117 ((m + 15)) (by omega) (by omega))).trans hm15
      exact W.widen (by omega) (by omega) (hk _ _ _ _ _ (by omega) ⟨_, _, _, _, _, _, _, _, _, _, _, _, _, _, _, _, _, _, _, _, _, _, _, _, _, _, hc140, hc141, hc142, hc143, hc144, hc145, hc146, hc147, hc148, hc149, hc150, hc134, hc151, hc152, hc153, hc154, hc155, hc156, hc157, hc158, hc159, hc160, hc161, hc162, hc163, hc164, hc165, hc137, lF_s hlF, htp, hwr⟩ hV (lv_sub hl [2, 3, 4, 5, 6] rfl))

theorem nx_stays_0_1 {s : Int} {f : sF} {t : Int} (h1 : ¬ (0 ≤ s ∧ s < f 568)) (h2 : (0 ≤ s ∧ s < f 568) ∧ ¬ (0 ≤ t ∧ t ≤ f 571)) : False := by
  first
  | omega
  | (simp_all; done)
  | (simp_all; omega)
theorem nx_stays_0_2 {s : Int} {f : sF} {t : Int} (h1 : ¬ (0 ≤ s ∧ s < f 568)) (h2 : (0 ≤ s ∧ s < f 568) ∧ 0 ≤ t ∧ t ≤ f 571) : False := by
  first
  | omega
  | (simp_all; done)
  | (simp_all; omega)
theorem nx_stays_1_0 {s : Int} {f : sF} {t : Int} (h1 : (0 ≤ s ∧ s < f 568) ∧ ¬ (0 ≤ t ∧ t ≤ f 571)) (h2 : ¬ (0 ≤ s ∧ s < f 568)) : False := by
  first
  | omega
  | (simp_all; done)
  | (simp_all; omega)
theorem nx_stays_1_2 {s : Int} {f : sF} {t : Int} (h1 : (0 ≤ s ∧ s < f 568) ∧ ¬ (0 ≤ t ∧ t ≤ f 571)) (h2 : (0 ≤ s ∧ s < f 568) ∧ 0 ≤ t ∧ t ≤ f 571) : False := by
  first
  | omega
  | (simp_all; done)
  | (simp_all; omega)
theorem nx_stays_2_0 {s : Int} {f : sF} {t : Int} (h1 : (0 ≤ s ∧ s < f 568) ∧ 0 ≤ t ∧ t ≤ f 571) (h2 : ¬ (0 ≤ s ∧ s < f 568)) : False := by
  first
  | omega
  | (simp_all; done)
  | (simp_all; omega)
theorem nx_stays_2_1 {s : Int} {f : sF} {t : Int} (h1 : (0 ≤ s ∧ s < f 568) ∧ 0 ≤ t ∧ t ≤ f 571) (h2 : (0 ≤ s ∧ s < f 568) ∧ ¬ (0 ≤ t ∧ t ≤ f 571)) : False := by
  first
  | omega
  | (simp_all; done)
  | (simp_all; omega)
set_option maxHeartbeats 4000000 in
set_option maxRecDepth 100000 in
theorem law_26 {p_ : Program} {l_ : Launch} {e_ : Env} {s_ : State} {m_ : MethodId} {args_ : Array Value} {below_ : List Frame} {meth_ : Method} {c_ : Code} {nm_ : String} {G : sG} {b_ : Nat} {M0 : sM} {N0 : Nat} {Q : State → Prop} (E : sE p_ l_ e_ room_1 s_ m_ args_ below_ meth_ c_ cL_law 9 wsL_law RL nm_ (some .boolean) G b_ M0 N0) (hF_ : xcF s_) (hlt : l_.stackTraces = false) {z L : Nat} {xs : Nat → Int32} (hX : va_X z L xs s_ s_.heap) (hzb : z < b_) {c m o kb : Nat} (hg : c + 60 ≤ m ∧ m + 16 ≤ o ∧ o < kb) {cc_ ss_ : Nat} (hcc : cc_ + 1170 ≤ room_1.cells ∧ ss_ + 14000 ≤ room_1.slots) {q i : Int} (hi : 0 ≤ i ∧ i + 6 ≤ L ∧ (L : Int) ≤ 3072) (hq : 0 ≤ q ∧ q ≤ 600) {M : sM} {N : Nat} (hkN : kb ≤ N) (hI : lI G M c m o kb q) {H : Heap} {locs : List Loc} {ls : Array Slot} (hV : sV G b_ M N s_ H locs) (hl : lv_has ls 9 [(0, .ref z), (1, .ref c), (2, .ref m), (3, .ref o), (4, .int (sI i))])
    (hk : ∀ (M1 : sM) (N1 : Nat) (H1 : Heap) (locs1 : List Loc) (ls1 : Array Slot), kb ≤ N1 → lI G M1 c m o kb (q + 1) → sV G b_ M1 N1 s_ H1 locs1 → lv_has ls1 9 [(0, .ref z), (1, .ref c), (2, .ref m), (3, .ref o), (4, .int (sI i))] → W p_ l_ e_ room_1 s_ m_ args_ below_ meth_ c_ H1 locs1 (cc_ + 1170) (ss_ + 14000) Q (F0 m_ 2853 ls1 [])) : W p_ l_ e_ room_1 s_ m_ args_ below_ meth_ c_ H locs cc_ ss_ Q (F0 m_ 1759 ls []) := by
  have S := E.1
  have hx_ := S.1
  have hb_ := S.2.1
  have hK := E.2.2.2.2.1
  have hI2 := hI
  obtain ⟨kn, ch, f, fs, tn, te, t, wc, wn, T, T2, th, sn, nm, g0, A4, A5, A6, A7, A8, A9, A10, A11, A12, A13, A14, hc0, hst, htr, hkp, ht0, ht1, hct, hft, hly, hkn, hex, hm0, hm1, hsv, hm3, hm4, hm5, hm6, hm7, hm8, hm9, hm10, hm11, hm12, hm13, hm14, hm15, ho9, hlF, htp, hwr⟩ := hI2
  have hok := hlF.1.1
  have hdI := hlF.1.2.1
  have hsL := hlF.1.2.2.1
  have hclk := hlF.1.2.2.2
  have hchr : 0 ≤ ch ∧ ch ≤ 15 := ⟨hkp.r.2.2.1, hkp.r.2.2.2⟩
  have htp1 := htp.1
  have htp2 := htp.2.1
  have hwq := wrQ_e hwr
  have hwq1 := hwq.1
  have hwq2 := hwq.2.1
  have kn0 := sOk_N hok
  refine lv_aload_n hx_ hb_ dL_law_1759 rfl (lv_at hl 1 rfl) ?_
  refine lv_aload_n hx_ hb_ dL_law_1760 rfl (lv_at hl 0 rfl) ?_
  refine lv_iload hx_ hb_ dL_law_1761 (lv_at hl 4 rfl) ?_
  refine si_const S dL_law_1763 ?_
  refine si_add S dL_law_1764 ?_
  refine sc_sld S hV hX hzb (by omega) dL_law_1765 ?_
  refine lv_aload_n hx_ hb_ dL_law_1766 rfl (lv_at hl 0 rfl) ?_
  refine lv_iload hx_ hb_ dL_law_1767 (lv_at hl 4 rfl) ?_
  refine si_const S dL_law_1769 ?_
  refine si_add S dL_law_1770 ?_
  refine sc_sld S hV hX hzb (by omega) dL_law_1771 ?_
  refine lv_aload_n hx_ hb_ dL_law_1772 rfl (lv_at hl 3 rfl) ?_
  refine yk_Si (hh := [(0, 10, 13, 25), (0, 10, 17, 19)]) E hF_ hV (As := [.ref c, .int (sI (lX xs (i + 1))), .int (sI (lX xs (i + 2))), .ref o]) (rest := []) (kL_stays l_ G b_ M N o g0 c kn ch f (lX xs (i + 1)) (lX xs (i + 2)) hc0 hst hkn ho9 (hlt) (hok) (⟨lX_r xs _, lX_r xs _⟩) (by omega)) (vx_cwSW 4 S.2.2.2.2 gL_law_L_stays rfl rfl rfl (by decide +kernel) ⟨Nat.le_of_ble_eq_true rfl, Nat.le_of_ble_eq_true rfl⟩) rfl rfl hl.1 (Nat.le_of_ble_eq_true rfl) dL_law_1773 (c1 := cc_ + 10) (s1 := ss_ + 60) ⟨⟨rfl, rfl⟩, by omega, by omega⟩ (fun z4 M1 N2 H locs hp3 hV => ?_)
  obtain ⟨hN5, hc6, hf7, hq8⟩ := hp3
  rcases hq8 with ⟨c9, ez10, hc11⟩ | ⟨c12, ez13, hc14⟩ | ⟨c15, ez16, hc17⟩
  · rw [ez10]
    refine lv_istore (lv' := [(5, .int (sI 1)), (0, .ref z), (1, .ref c), (2, .ref m), (3, .ref o), (4, .int (sI i))]) hx_ hb_ dL_law_1776 hl (by decide) rfl (fun ls hl => ?_)
    refine lv_aload_n hx_ hb_ dL_law_1778 rfl (lv_at hl 3 rfl) ?_
    refine lv_aload_n hx_ hb_ dL_law_1779 rfl (lv_at hl 1 rfl) ?_
    refine lv_iload hx_ hb_ dL_law_1780 (lv_at hl 5 rfl) ?_
    refine si_const S dL_law_1782 ?_
    refine si_add S dL_law_1783 ?_
    refine sc_sld S hV hX hzb (by omega) dL_law_1784 ?_
    refine lv_aload_n hx_ hb_ dL_law_1785 rfl (lv_at hl 1 rfl) ?_
    refine lv_iload hx_ hb_ dL_law_1786 (lv_at hl 5 rfl) ?_
    refine si_const S dL_law_1788 ?_
    refine si_add S dL_law_1789 ?_
    refine sc_sld S hV hX hzb (by omega) dL_law_1790 ?_
    have ga19 : ∀ x : Nat, m ≤ x → x < m + 16 → M1 x = M x := fun x u1 u2 => hf7 x (by omega) (by omega)
    have hc18 : M1 m = some (mO m th ch tn te sn nm wn) := (ga19 m (by omega) (by omega)).trans hm0
    have hc20 : M1 (m + 1) = some (sArr G 574 f) := (ga19 ((m + 1)) (by omega) (by omega)).trans hm1
    have hc21 : M1 (m + 9) = some (sArr G 62 A9) := (ga19 ((m + 9)) (by omega) (by omega)).trans hm9
    refine sk_Vi E hV (As := [.int (sI (lX xs (i + 1))), .int (sI (lX xs (i + 2)))]) (rest := []) (kX11_stays l_ G b_ M1 N2 m th ch tn te sn nm wn f A9 (lX xs (i + 1)) (lX xs (i + 2)) hc18 hc20 hc21 (hok) (⟨lX_r xs _, lX_r xs _⟩)) (cwV 2 S.2.2.2.2 gL_law_X11_stays rfl rfl rfl (by decide +kernel) ⟨Nat.le_of_ble_eq_true rfl, Nat.le_of_ble_eq_true rfl⟩) (ci := 9) hc18 rfl rfl rfl hl.1 (Nat.le_of_ble_eq_true rfl) dL_law_1791 (c1 := cc_ + 10) (s1 := ss_ + 60) ⟨⟨rfl, rfl⟩, by omega, by omega⟩ (fun z25 M22 N23 H locs hp24 hV => ?_)
    obtain ⟨c926, D927, hN28, hc29, hf30, hq31⟩ := hp24
    rw [hN28] at hV
    rcases hq31 with ⟨c32, ez33, hc34⟩ | ⟨c35, ez36, hc37⟩ | ⟨c38, ez39, hc40⟩
    · rw [ez33]
      refine lv_istore (lv' := [(6, .int (sI 0)), (5, .int (sI 1)), (0, .ref z), (1, .ref c), (2, .ref m), (3, .ref o), (4, .int (sI i))]) hx_ hb_ dL_law_1794 hl (by decide) rfl (fun ls hl => ?_)
      refine lv_aload_n hx_ hb_ dL_law_1796 rfl (lv_at hl 4 rfl) ?_
      refine sk_VP E hV (As := []) (rest := []) (kX11_thrown l_ G b_ M22 N2 m 1 ch tn te c926 nm wn hc34) (cwV 0 S.2.2.2.2 gL_law_X11_thrown rfl rfl rfl (by decide +kernel) ⟨Nat.le_of_ble_eq_true rfl, Nat.le_of_ble_eq_true rfl⟩) (ci := 9) hc34 rfl rfl rfl hl.1 (Nat.le_of_ble_eq_true rfl) dL_law_1797 (c1 := cc_ + 10) (s1 := ss_ + 60) ⟨⟨rfl, rfl⟩, by omega, by omega⟩ (fun H locs hV => ?_)
      refine lv_iload hx_ hb_ dL_law_1800 (lv_at hl 1 rfl) ?_
      refine sb_eq (tgt := 1807) S dL_law_1802 (by decide) (by omega) (fun _ => ?_) (fun c41 => absurd c41 (by omega))
      refine lv_iload hx_ hb_ dL_law_1807 (lv_at hl 1 rfl) ?_
      refine sz_ne (tgt := 1824) S dL_law_1809 (by decide) (by omega) (fun _ => ?_) (fun c42 => absurd c42 (by omega))
      refine lv_goto (tgt := 2853) hx_ hb_ dL_law_1824 (by decide) ?_
      have gb44 : ∀ x : Nat, (x < m ∨ m + 16 ≤ x) → M22 x = M1 x := fun x u1 => hf30 x (by omega) (by omega)
      have hc43 : M22 c = some (xO c kn ch) := ((gb44 c (by omega)).trans (hf7 c (by omega) (by omega))).trans hc0
      have hc45 : stC G M22 (c + 1) f := hst.fr (fun x q8 q9 => (gb44 x (by omega)).trans (hf7 x (by omega) (by omega)))
      have hc46 : triC G M22 (c + 16) := htr.fr (fun x q8 q9 => (gb44 x (by omega)).trans (hf7 x (by omega) (by omega)))
      have hc47 : kpC G M22 (c + 31) kb kn ch fs := hkp.fr (fun x q8 => (gb44 x (by omega)).trans (hf7 x (by omega) (by omega)))
      have hc48 : M22 (c + 32) = some (sObj 7 [.ref (c + 33), .int (sI tn), .int (sI te)]) := ((gb44 ((c + 32)) (by omega)).trans (hf7 (c + 32) (by omega) (by omega))).trans ht0
      have hc49 : M22 (c + 33) = some (sArr G 300 t) := ((gb44 ((c + 33)) (by omega)).trans (hf7 (c + 33) (by omega) (by omega))).trans ht1
      have hc50 : catC G M22 (c + 34) wc T := hct.fr (fun x q8 q9 => (gb44 x (by omega)).trans (hf7 x (by omega) (by omega)))
      have hc51 : orfC G M22 (c + 38) := hft.fr (fun x q8 q9 => (gb44 x (by omega)).trans (hf7 x (by omega) (by omega)))
      have hc52 : layC G M22 (c + 48) := hly.fr (fun x q8 q9 => (gb44 x (by omega)).trans (hf7 x (by omega) (by omega)))
      have hc53 : knoC G M22 (c + 54) := hc6.fr (fun x q8 q9 => gb44 x (by omega))
      have hc54 : excC G M22 (c + 57) := hex.fr (fun x q8 q9 => (gb44 x (by omega)).trans (hf7 x (by omega) (by omega)))
      have hc55 : M22 (m + 1) = some (sArr G 574 f) := (hf30 (m + 1) (by omega) (by omega)).trans hc20
      have hc56 : svC G M22 (m + 2) ch fs := hsv.fr (fun x q8 q9 => (hf30 x (by omega) (by omega)).trans (ga19 x (by omega) (by omega)))
      have hc57 : M22 (m + 3) = some (sArr G 300 t) := ((hf30 (m + 3) (by omega) (by omega)).trans (ga19 ((m + 3)) (by omega) (by omega))).trans hm3
      have hc58 : M22 (m + 4) = some (sArr G 11 A4) := ((hf30 (m + 4) (by omega) (by omega)).trans (ga19 ((m + 4)) (by omega) (by omega))).trans hm4
      have hc59 : M22 (m + 5) = some (sArr G 1024 A5) := ((hf30 (m + 5) (by omega) (by omega)).trans (ga19 ((m + 5)) (by omega) (by omega))).trans hm5
      have hc60 : M22 (m + 6) = some (sArr G 1024 A6) := ((hf30 (m + 6) (by omega) (by omega)).trans (ga19 ((m + 6)) (by omega) (by omega))).trans hm6
      have hc61 : M22 (m + 7) = some (sArr G 10 A7) := ((hf30 (m + 7) (by omega) (by omega)).trans (ga19 ((m + 7)) (by omega) (by omega))).trans hm7
      have hc62 : M22 (m + 8) = some (sArr G 10 A8) := ((hf30 (m + 8) (by omega) (by omega)).trans (ga19 ((m + 8)) (by omega) (by omega))).trans hm8
      have hc63 : M22 (m + 10) = some (sArr G 8 A10) := ((hf30 (m + 10) (by omega) (by omega)).trans (ga19 ((m + 10)) (by omega) (by omega))).trans hm10
      have hc64 : M22 (m + 11) = some (sArr G 8 A11) := ((hf30 (m + 11) (by omega) (by omega)).trans (ga19 ((m + 11)) (by omega) (by omega))).trans hm11
      have hc65 : M22 (m + 12) = some (sArr G 60 A12) := ((hf30 (m + 12) (by omega) (by omega)).trans (ga19 ((m + 12)) (by omega) (by omega))).trans hm12
      have hc66 : M22 (m + 13) = some (sArr G 240 A13) := ((hf30 (m + 13) (by omega) (by omega)).trans (ga19 ((m + 13)) (by omega) (by omega))).trans hm13
      have hc67 : M22 (m + 14) = some (sArr G 574 A14) := ((hf30 (m + 14) (by omega) (by omega)).trans (ga19 ((m + 14)) (by omega) (by omega))).trans hm14
      have hc68 : M22 (m + 15) = some (sArr G 200 T2) := ((hf30 (m + 15) (by omega) (by omega)).trans (ga19 ((m + 15)) (by omega) (by omega))).trans hm15
      have hc69 : M22 o = some (sArL G 1 g0) := (gb44 o (by omega)).trans hc11
      exact W.widen (by omega) (by omega) (hk _ _ _ _ _ (by omega) ⟨_, _, _, _, _, _, _, _, _, _, _, _, _, _, _, _, _, _, _, _, _, _, _, _, _, _, hc43, hc45, hc46, hc47, hc48, hc49, hc50, hc51, hc52, hc53, hc54, hc34, hc55, hc56, hc57, hc58, hc59, hc60, hc61, hc62, hc29, hc63, hc64, hc65, hc66, hc67, hc68, hc69, lF_s hlF, htp, hwr⟩ hV (lv_sub hl [2, 3, 4, 5, 6] rfl))
    · rw [ez36]
      exact (nx_stays_0_1 c9 c35).elim
    · rw [ez39]
      exact (nx_stays_0_2 c9 c38).elim
  · rw [ez13]
    refine lv_istore (lv' := [(5, .int (sI 2)), (0, .ref z), (1, .ref c), (2, .ref m), (3, .ref o), (4, .int (sI i))]) hx_ hb_ dL_law_1776 hl (by decide) rfl (fun ls hl => ?_)
    refine lv_aload_n hx_ hb_ dL_law_1778 rfl (lv_at hl 3 rfl) ?_
    refine lv_aload_n hx_ hb_ dL_law_1779 rfl (lv_at hl 1 rfl) ?_
    refine lv_iload hx_ hb_ dL_law_1780 (lv_at hl 5 rfl) ?_
    refine si_const S dL_law_1782 ?_
    refine si_add S dL_law_1783 ?_
    refine sc_sld S hV hX hzb (by omega) dL_law_1784 ?_
    refine lv_aload_n hx_ hb_ dL_law_1785 rfl (lv_at hl 1 rfl) ?_
    refine lv_iload hx_ hb_ dL_law_1786 (lv_at hl 5 rfl) ?_
    refine si_const S dL_law_1788 ?_
    refine si_add S dL_law_1789 ?_
    refine sc_sld S hV hX hzb (by omega) dL_law_1790 ?_
    have ga71 : ∀ x : Nat, m ≤ x → x < m + 16 → M1 x = M x := fun x u1 u2 => hf7 x (by omega) (by omega)
    have hc70 : M1 m = some (mO m th ch tn te sn nm wn) := (ga71 m (by omega) (by omega)).trans hm0
    have hc72 : M1 (m + 1) = some (sArr G 574 f) := (ga71 ((m + 1)) (by omega) (by omega)).trans hm1
    have hc73 : M1 (m + 9) = some (sArr G 62 A9) := (ga71 ((m + 9)) (by omega) (by omega)).trans hm9
    refine sk_Vi E hV (As := [.int (sI (lX xs (i + 1))), .int (sI (lX xs (i + 2)))]) (rest := []) (kX11_stays l_ G b_ M1 N2 m th ch tn te sn nm wn f A9 (lX xs (i + 1)) (lX xs (i + 2)) hc70 hc72 hc73 (hok) (⟨lX_r xs _, lX_r xs _⟩)) (cwV 2 S.2.2.2.2 gL_law_X11_stays rfl rfl rfl (by decide +kernel) ⟨Nat.le_of_ble_eq_true rfl, Nat.le_of_ble_eq_true rfl⟩) (ci := 9) hc70 rfl rfl rfl hl.1 (Nat.le_of_ble_eq_true rfl) dL_law_1791 (c1 := cc_ + 10) (s1 := ss_ + 60) ⟨⟨rfl, rfl⟩, by omega, by omega⟩ (fun z77 M74 N75 H locs hp76 hV => ?_)
    obtain ⟨c978, D979, hN80, hc81, hf82, hq83⟩ := hp76
    rw [hN80] at hV
    rcases hq83 with ⟨c84, ez85, hc86⟩ | ⟨c87, ez88, hc89⟩ | ⟨c90, ez91, hc92⟩
    · rw [ez85]
      exact (nx_stays_1_0 c12 c84).elim
    · rw [ez88]
      refine lv_istore (lv' := [(6, .int (sI 0)), (5, .int (sI 2)), (0, .ref z), (1, .ref c), (2, .ref m), (3, .ref o), (4, .int (sI i))]) hx_ hb_ dL_law_1794 hl (by decide) rfl (fun ls hl => ?_)
      refine lv_aload_n hx_ hb_ dL_law_1796 rfl (lv_at hl 4 rfl) ?_
      refine sk_VP E hV (As := []) (rest := []) (kX11_thrown l_ G b_ M74 N2 m 2 ch tn te c978 nm wn hc89) (cwV 0 S.2.2.2.2 gL_law_X11_thrown rfl rfl rfl (by decide +kernel) ⟨Nat.le_of_ble_eq_true rfl, Nat.le_of_ble_eq_true rfl⟩) (ci := 9) hc89 rfl rfl rfl hl.1 (Nat.le_of_ble_eq_true rfl) dL_law_1797 (c1 := cc_ + 10) (s1 := ss_ + 60) ⟨⟨rfl, rfl⟩, by omega, by omega⟩ (fun H locs hV => ?_)
      refine lv_iload hx_ hb_ dL_law_1800 (lv_at hl 1 rfl) ?_
      refine sb_eq (tgt := 1807) S dL_law_1802 (by decide) (by omega) (fun _ => ?_) (fun c93 => absurd c93 (by omega))
      refine lv_iload hx_ hb_ dL_law_1807 (lv_at hl 1 rfl) ?_
      refine sz_ne (tgt := 1824) S dL_law_1809 (by decide) (by omega) (fun _ => ?_) (fun c94 => absurd c94 (by omega))
      refine lv_goto (tgt := 2853) hx_ hb_ dL_law_1824 (by decide) ?_
      have gb96 : ∀ x : Nat, (x < m ∨ m + 16 ≤ x) → M74 x = M1 x := fun x u1 => hf82 x (by omega) (by omega)
      have hc95 : M74 c = some (xO c kn ch) := ((gb96 c (by omega)).trans (hf7 c (by omega) (by omega))).trans hc0
      have hc97 : stC G M74 (c + 1) f := hst.fr (fun x q8 q9 => (gb96 x (by omega)).trans (hf7 x (by omega) (by omega)))
      have hc98 : triC G M74 (c + 16) := htr.fr (fun x q8 q9 => (gb96 x (by omega)).trans (hf7 x (by omega) (by omega)))
      have hc99 : kpC G M74 (c + 31) kb kn ch fs := hkp.fr (fun x q8 => (gb96 x (by omega)).trans (hf7 x (by omega) (by omega)))
      have hc100 : M74 (c + 32) = some (sObj 7 [.ref (c + 33), .int (sI tn), .int (sI te)]) := ((gb96 ((c + 32)) (by omega)).trans (hf7 (c + 32) (by omega) (by omega))).trans ht0
      have hc101 : M74 (c + 33) = some (sArr G 300 t) := ((gb96 ((c + 33)) (by omega)).trans (hf7 (c + 33) (by omega) (by omega))).trans ht1
      have hc102 : catC G M74 (c + 34) wc T := hct.fr (fun x q8 q9 => (gb96 x (by omega)).trans (hf7 x (by omega) (by omega)))
      have hc103 : orfC G M74 (c + 38) := hft.fr (fun x q8 q9 => (gb96 x (by omega)).trans (hf7 x (by omega) (by omega)))
      have hc104 : layC G M74 (c + 48) := hly.fr (fun x q8 q9 => (gb96 x (by omega)).trans (hf7 x (by omega) (by omega)))
      have hc105 : knoC G M74 (c + 54) := hc6.fr (fun x q8 q9 => gb96 x (by omega))
      have hc106 : excC G M74 (c + 57) := hex.fr (fun x q8 q9 => (gb96 x (by omega)).trans (hf7 x (by omega) (by omega)))
      have hc107 : M74 (m + 1) = some (sArr G 574 f) := (hf82 (m + 1) (by omega) (by omega)).trans hc72
      have hc108 : svC G M74 (m + 2) ch fs := hsv.fr (fun x q8 q9 => (hf82 x (by omega) (by omega)).trans (ga71 x (by omega) (by omega)))
      have hc109 : M74 (m + 3) = some (sArr G 300 t) := ((hf82 (m + 3) (by omega) (by omega)).trans (ga71 ((m + 3)) (by omega) (by omega))).trans hm3
      have hc110 : M74 (m + 4) = some (sArr G 11 A4) := ((hf82 (m + 4) (by omega) (by omega)).trans (ga71 ((m + 4)) (by omega) (by omega))).trans hm4
      have hc111 : M74 (m + 5) = some (sArr G 1024 A5) := ((hf82 (m + 5) (by omega) (by omega)).trans (ga71 ((m + 5)) (by omega) (by omega))).trans hm5
      have hc112 : M74 (m + 6) = some (sArr G 1024 A6) := ((hf82 (m + 6) (by omega) (by omega)).trans (ga71 ((m + 6)) (by omega) (by omega))).trans hm6
      have hc113 : M74 (m + 7) = some (sArr G 10 A7) := ((hf82 (m + 7) (by omega) (by omega)).trans (ga71 ((m + 7)) (by omega) (by omega))).trans hm7
      have hc114 : M74 (m + 8) = some (sArr G 10 A8) := ((hf82 (m + 8) (by omega) (by omega)).trans (ga71 ((m + 8)) (by omega) (by omega))).trans hm8
      have hc115 : M74 (m + 10) = some (sArr G 8 A10) := ((hf82 (m + 10) (by omega) (by omega)).trans (ga71 ((m + 10)) (by omega) (by omega))).trans hm10
      have hc116 : M74 (m + 11) = some (sArr G 8 A11) := ((hf82 (m + 11) (by omega) (by omega)).trans (ga71 ((m + 11)) (by omega) (by omega))).trans hm11
      have hc117 : M74 (m + 12) = some (sArr G 60 A12) := ((hf82 (m + 12) (by omega) (by omega)).trans (ga71 ((m + 12)) (by omega) (by omega))).trans hm12
      have hc118 : M74 (m + 13) = some (sArr G 240 A13) := ((hf82 (m + 13) (by omega) (by omega)).trans (ga71 ((m + 13)) (by omega) (by omega))).trans hm13
      have hc119 : M74 (m + 14) = some (sArr G 574 A14) := ((hf82 (m + 14) (by omega) (by omega)).trans (ga71 ((m + 14)) (by omega) (by omega))).trans hm14
      have hc120 : M74 (m + 15) = some (sArr G 200 T2) := ((hf82 (m + 15) (by omega) (by omega)).trans (ga71 ((m + 15)) (by omega) (by omega))).trans hm15
      have hc121 : M74 o = some (sArL G 1 g0) := (gb96 o (by omega)).trans hc14
      exact W.widen (by omega) (by omega) (hk _ _ _ _ _ (by omega) ⟨_, _, _, _, _, _, _, _, _, _, _, _, _, _, _, _, _, _, _, _, _, _, _, _, _, _, hc95, hc97, hc98, hc99, hc100, hc101, hc102, hc103, hc104, hc105, hc106, hc89, hc107, hc108, hc109, hc110, hc111, hc112, hc113, hc114, hc81, hc115, hc116, hc117, hc118, hc119, hc120, hc121, lF_s hlF, htp, hwr⟩ hV (lv_sub hl [2, 3, 4, 5, 6] rfl))
    · rw [ez91]
      exact (nx_stays_1_2 c12 c90).elim
  · rw [ez16]
    refine lv_istore (lv' := [(5, .int (sI 0)), (0, .ref z), (1, .ref c), (2, .ref m), (3, .ref o), (4, .int (sI i))]) hx_ hb_ dL_law_1776 hl (by decide) rfl (fun ls hl => ?_)
    refine lv_aload_n hx_ hb_ dL_law_1778 rfl (lv_at hl 3 rfl) ?_
    refine lv_aload_n hx_ hb_ dL_law_1779 rfl (lv_at hl 1 rfl) ?_
    refine lv_iload hx_ hb_ dL_law_1780 (lv_at hl 5 rfl) ?_
    refine si_const S dL_law_1782 ?_
    refine si_add S dL_law_1783 ?_
    refine sc_sld S hV hX hzb (by omega) dL_law_1784 ?_
    refine lv_aload_n hx_ hb_ dL_law_1785 rfl (lv_at hl 1 rfl) ?_
    refine lv_iload hx_ hb_ dL_law_1786 (lv_at hl 5 rfl) ?_
    refine si_const S dL_law_1788 ?_
    refine si_add S dL_law_1789 ?_
    refine sc_sld S hV hX hzb (by omega) dL_law_1790 ?_
    have ga123 : ∀ x : Nat, m ≤ x → x < m + 16 → M1 x = M x := fun x u1 u2 => hf7 x (by omega) (by omega)
    have hc122 : M1 m = some (mO m th ch tn te sn nm wn) := (ga123 m (by omega) (by omega)).trans hm0
    have hc124 : M1 (m + 1) = some (sArr G 574 f) := (ga123 ((m + 1)) (by omega) (by omega)).trans hm1
    have hc125 : M1 (m + 9) = some (sArr G 62 A9) := (ga123 ((m + 9)) (by omega) (by omega)).trans hm9
    refine sk_Vi E hV (As := [.int (sI (lX xs (i + 1))), .int (sI (lX xs (i + 2)))]) (rest := []) (kX11_stays l_ G b_ M1 N2 m th ch tn te sn nm wn f A9 (lX xs (i + 1)) (lX xs (i + 2)) hc122 hc124 hc125 (hok) (⟨lX_r xs _, lX_r xs _⟩)) (cwV 2 S.2.2.2.2 gL_law_X11_stays rfl rfl rfl (by decide +kernel) ⟨Nat.le_of_ble_eq_true rfl, Nat.le_of_ble_eq_true rfl⟩) (ci := 9) hc122 rfl rfl rfl hl.1 (Nat.le_of_ble_eq_true rfl) dL_law_1791 (c1 := cc_ + 10) (s1 := ss_ + 60) ⟨⟨rfl, rfl⟩, by omega, by omega⟩ (fun z129 M126 N127 H locs hp128 hV => ?_)
    obtain ⟨c9130, D9131, hN132, hc133, hf134, hq135⟩ := hp128
    rw [hN132] at hV
    rcases hq135 with ⟨c136, ez137, hc138⟩ | ⟨c139, ez140, hc141⟩ | ⟨c142, ez143, hc144⟩
    · rw [ez137]
      exact (nx_stays_2_0 c15 c136).elim
    · rw [ez140]
      exact (nx_stays_2_1 c15 c139).elim
    · rw [ez143]
      refine lv_istore (lv' := [(6, .int (sI (segC (fun x => hnd f (lX xs (i + 1)) x (lX xs (i + 2)))))), (5, .int (sI 0)), (0, .ref z), (1, .ref c), (2, .ref m), (3, .ref o), (4, .int (sI i))]) hx_ hb_ dL_law_1794 hl (by decide) rfl (fun ls hl => ?_)
      refine lv_aload_n hx_ hb_ dL_law_1796 rfl (lv_at hl 4 rfl) ?_
      refine sk_VP E hV (As := []) (rest := []) (kX11_thrown l_ G b_ M126 N2 m 0 ch tn te c9130 nm wn hc144) (cwV 0 S.2.2.2.2 gL_law_X11_thrown rfl rfl rfl (by decide +kernel) ⟨Nat.le_of_ble_eq_true rfl, Nat.le_of_ble_eq_true rfl⟩) (ci := 9) hc144 rfl rfl rfl hl.1 (Nat.le_of_ble_eq_true rfl) dL_law_1797 (c1 := cc_ + 10) (s1 := ss_ + 60) ⟨⟨rfl, rfl⟩, by omega, by omega⟩ (fun H locs hV => ?_)
      refine lv_iload hx_ hb_ dL_law_1800 (lv_at hl 1 rfl) ?_
      refine sb_eq (tgt := 1807) S dL_law_1802 (by decide) (by omega) (fun _ => ?_) (fun c145 => absurd c145 (by omega))
      refine lv_iload hx_ hb_ dL_law_1807 (lv_at hl 1 rfl) ?_
      refine sz_ne (tgt := 1824) S dL_law_1809 (by decide) (by omega) (fun c146 => absurd c146 (by omega)) (fun _ => ?_)
      refine lv_aload_n hx_ hb_ dL_law_1812 rfl (lv_at hl 5 rfl) ?_
      refine si_const S dL_law_1813 ?_
      have gb148 : ∀ x : Nat, (x < m ∨ m + 16 ≤ x) → M126 x = M1 x := fun x u1 => hf134 x (by omega) (by omega)
      have hc147 : M126 o = some (sArL G 1 (iup g0 0 (sW (segC (fun x => hnd f (lX xs (i + 1)) x (lX xs (i + 2))))))) := (gb148 o (by omega)).trans hc17
      refine sc_lald S hK hV hc147 (by omega) dL_law_1814 ?_
      rw [show (iup g0 0 (sW (segC (fun x => hnd f (lX xs (i + 1)) x (lX xs (i + 2)))))) 0 = sW (segC (fun x => hnd f (lX xs (i + 1)) x (lX xs (i + 2)))) from if_pos rfl]
      refine lv_iload hx_ hb_ dL_law_1815 (lv_at hl 0 rfl) ?_
      refine sl_i2w S dL_law_1817 ?_
      refine sl_cmp0 S (rfl) dL_law_1818 ?_
      refine sz_eq (tgt := 1824) S dL_law_1819 (by decide) (by omega) (fun _ => ?_) (fun c149 => absurd c149 (by omega))
      refine lv_goto (tgt := 2853) hx_ hb_ dL_law_1824 (by decide) ?_
      have hc150 : M126 c = some (xO c kn ch) := ((gb148 c (by omega)).trans (hf7 c (by omega) (by omega))).trans hc0
      have hc151 : stC G M126 (c + 1) f := hst.fr (fun x q8 q9 => (gb148 x (by omega)).trans (hf7 x (by omega) (by omega)))
      have hc152 : triC G M126 (c + 16) := htr.fr (fun x q8 q9 => (gb148 x (by omega)).trans (hf7 x (by omega) (by omega)))
      have hc153 : kpC G M126 (c + 31) kb kn ch fs := hkp.fr (fun x q8 => (gb148 x (by omega)).trans (hf7 x (by omega) (by omega)))
      have hc154 : M126 (c + 32) = some (sObj 7 [.ref (c + 33), .int (sI tn), .int (sI te)]) := ((gb148 ((c + 32)) (by omega)).trans (hf7 (c + 32) (by omega) (by omega))).trans ht0
      have hc155 : M126 (c + 33) = some (sArr G 300 t) := ((gb148 ((c + 33)) (by omega)).trans (hf7 (c + 33) (by omega) (by omega))).trans ht1
      have hc156 : catC G M126 (c + 34) wc T := hct.fr (fun x q8 q9 => (gb148 x (by omega)).trans (hf7 x (by omega) (by omega)))
      have hc157 : orfC G M126 (c + 38) := hft.fr (fun x q8 q9 => (gb148 x (by omega)).trans (hf7 x (by omega) (by omega)))
      have hc158 : layC G M126 (c + 48) := hly.fr (fun x q8 q9 => (gb148 x (by omega)).trans (hf7 x (by omega) (by omega)))
      have hc159 : knoC G M126 (c + 54) := hc6.fr (fun x q8 q9 => gb148 x (by omega))
      have hc160 : excC G M126 (c + 57) := hex.fr (fun x q8 q9 => (gb148 x (by omega)).trans (hf7 x (by omega) (by omega)))
      have hc161 : M126 (m + 1) = some (sArr G 574 f) := (hf134 (m + 1) (by omega) (by omega)).trans hc124
      have hc162 : svC G M126 (m + 2) ch fs := hsv.fr (fun x q8 q9 => (hf134 x (by omega) (by omega)).trans (ga123 x (by omega) (by omega)))
      have hc163 : M126 (m + 3) = some (sArr G 300 t) := ((hf134 (m + 3) (by omega) (by omega)).trans (ga123 ((m + 3)) (by omega) (by omega))).trans hm3
      have hc164 : M126 (m + 4) = some (sArr G 11 A4) := ((hf134 (m + 4) (by omega) (by omega)).trans (ga123 ((m + 4)) (by omega) (by omega))).trans hm4
      have hc165 : M126 (m + 5) = some (sArr G 1024 A5) := ((hf134 (m + 5) (by omega) (by omega)).trans (ga123 ((m + 5)) (by omega) (by omega))).trans hm5
      have hc166 : M126 (m + 6) = some (sArr G 1024 A6) := ((hf134 (m + 6) (by omega) (by omega)).trans (ga123 ((m + 6)) (by omega) (by omega))).trans hm6
      have hc167 : M126 (m + 7) = some (sArr G 10 A7) := ((hf134 (m + 7) (by omega) (by omega)).trans (ga123 ((m + 7)) (by omega) (by omega))).trans hm7
      have hc168 : M126 (m + 8) = some (sArr G 10 A8) := ((hf134 (m + 8) (by omega) (by omega)).trans (ga123 ((m + 8)) (by omega) (by omega))).trans hm8
      have hc169 : M126 (m + 10) = some (sArr G 8 A10) := ((hf134 (m + 10) (by omega) (by omega)).trans (ga123 ((m + 10)) (by omega) (by omega))).trans hm10
      have hc170 : M126 (m + 11) = some (sArr G 8 A11) := ((hf134 (m + 11) (by omega) (by omega)).trans (ga123 ((m + 11)) (by omega) (by omega))).trans hm11
      have hc171 : M126 (m + 12) = some (sArr G 60 A12) := ((hf134 (m + 12) (by omega) (by omega)).trans (ga123 ((m + 12)) (by omega) (by omega))).trans hm12
      have hc172 : M126 (m + 13) = some (sArr G 240 A13) := ((hf134 (m + 13) (by omega) (by omega)).trans (ga123 ((m + 13)) (by omega) (by omega))).trans hm13
      have hc173 : M126 (m + 14) = some (sArr G 574 A14) := ((hf134 (m + 14) (by omega) (by omega)).trans (ga123 ((m + 14)) (by omega) (by omega))).trans hm14
      have hc174 : M126 (m + 15) = some (sArr G 200 T2) := ((hf134 (m + 15) (by omega) (by omega)).trans (ga123 ((m + 15)) (by omega) (by omega))).trans hm15
      exact W.widen (by omega) (by omega) (hk _ _ _ _ _ (by omega) ⟨_, _, _, _, _, _, _, _, _, _, _, _, _, _, _, _, _, _, _, _, _, _, _, _, _, _, hc150, hc151, hc152, hc153, hc154, hc155, hc156, hc157, hc158, hc159, hc160, hc144, hc161, hc162, hc163, hc164, hc165, hc166, hc167, hc168, hc133, hc169, hc170, hc171, hc172, hc173, hc174, hc147, lF_s hlF, htp, hwr⟩ hV (lv_sub hl [2, 3, 4, 5, 6] rfl))

theorem nx_stayAt_0_1 {s : Int} {f : sF} {j : Int} (h1 : ¬ (0 ≤ s ∧ s < f 568)) (h2 : (0 ≤ s ∧ s < f 568) ∧ ¬ (0 ≤ j ∧ j < segC (fun x => hnd f s x (f 571)))) : False := by
  first
  | omega
  | (simp_all; done)
  | (simp_all; omega)
theorem nx_stayAt_0_2 {s : Int} {f : sF} {j : Int} {v : Int} (h1 : ¬ (0 ≤ s ∧ s < f 568)) (h2 : (0 ≤ s ∧ s < f 568) ∧ (0 ≤ j ∧ j < segC (fun x => hnd f s x (f 571))) ∧ ¬ (0 ≤ v ∧ v ≤ 2)) : False := by
  first
  | omega
  | (simp_all; done)
  | (simp_all; omega)
theorem nx_stayAt_0_3 {s : Int} {f : sF} {j : Int} {v : Int} (h1 : ¬ (0 ≤ s ∧ s < f 568)) (h2 : (0 ≤ s ∧ s < f 568) ∧ (0 ≤ j ∧ j < segC (fun x => hnd f s x (f 571))) ∧ v = 0) : False := by
  first
  | omega
  | (simp_all; done)
  | (simp_all; omega)
theorem nx_stayAt_0_4 {s : Int} {f : sF} {j : Int} {v : Int} (h1 : ¬ (0 ≤ s ∧ s < f 568)) (h2 : (0 ≤ s ∧ s < f 568) ∧ (0 ≤ j ∧ j < segC (fun x => hnd f s x (f 571))) ∧ v = 1) : False := by
  first
  | omega
  | (simp_all; done)
  | (simp_all; omega)
theorem nx_stayAt_0_5 {s : Int} {f : sF} {j : Int} {v : Int} (h1 : ¬ (0 ≤ s ∧ s < f 568)) (h2 : (0 ≤ s ∧ s < f 568) ∧ (0 ≤ j ∧ j < segC (fun x => hnd f s x (f 571))) ∧ v = 2) : False := by
  first
  | omega
  | (simp_all; done)
  | (simp_all; omega)
theorem nx_stayAt_1_0 {s : Int} {f : sF} {j : Int} (h1 : (0 ≤ s ∧ s < f 568) ∧ ¬ (0 ≤ j ∧ j < segC (fun x => hnd f s x (f 571)))) (h2 : ¬ (0 ≤ s ∧ s < f 568)) : False := by
  first
  | omega
  | (simp_all; done)
  | (simp_all; omega)
theorem nx_stayAt_1_2 {s : Int} {f : sF} {j : Int} {v : Int} (h1 : (0 ≤ s ∧ s < f 568) ∧ ¬ (0 ≤ j ∧ j < segC (fun x => hnd f s x (f 571)))) (h2 : (0 ≤ s ∧ s < f 568) ∧ (0 ≤ j ∧ j < segC (fun x => hnd f s x (f 571))) ∧ ¬ (0 ≤ v ∧ v ≤ 2)) : False := by
  first
  | omega
  | (simp_all; done)
  | (simp_all; omega)
theorem nx_stayAt_1_3 {s : Int} {f : sF} {j : Int} {v : Int} (h1 : (0 ≤ s ∧ s < f 568) ∧ ¬ (0 ≤ j ∧ j < segC (fun x => hnd f s x (f 571)))) (h2 : (0 ≤ s ∧ s < f 568) ∧ (0 ≤ j ∧ j < segC (fun x => hnd f s x (f 571))) ∧ v = 0) : False := by
  first
  | omega
  | (simp_all; done)
  | (simp_all; omega)
theorem nx_stayAt_1_4 {s : Int} {f : sF} {j : Int} {v : Int} (h1 : (0 ≤ s ∧ s < f 568) ∧ ¬ (0 ≤ j ∧ j < segC (fun x => hnd f s x (f 571)))) (h2 : (0 ≤ s ∧ s < f 568) ∧ (0 ≤ j ∧ j < segC (fun x => hnd f s x (f 571))) ∧ v = 1) : False := by
  first
  | omega
  | (simp_all; done)
  | (simp_all; omega)
theorem nx_stayAt_1_5 {s : Int} {f : sF} {j : Int} {v : Int} (h1 : (0 ≤ s ∧ s < f 568) ∧ ¬ (0 ≤ j ∧ j < segC (fun x => hnd f s x (f 571)))) (h2 : (0 ≤ s ∧ s < f 568) ∧ (0 ≤ j ∧ j < segC (fun x => hnd f s x (f 571))) ∧ v = 2) : False := by
  first
  | omega
  | (simp_all; done)
  | (simp_all; omega)
theorem nx_stayAt_2_0 {s : Int} {f : sF} {j : Int} {v : Int} (h1 : (0 ≤ s ∧ s < f 568) ∧ (0 ≤ j ∧ j < segC (fun x => hnd f s x (f 571))) ∧ ¬ (0 ≤ v ∧ v ≤ 2)) (h2 : ¬ (0 ≤ s ∧ s < f 568)) : False := by
  first
  | omega
  | (simp_all; done)
  | (simp_all; omega)
theorem nx_stayAt_2_1 {s : Int} {f : sF} {j : Int} {v : Int} (h1 : (0 ≤ s ∧ s < f 568) ∧ (0 ≤ j ∧ j < segC (fun x => hnd f s x (f 571))) ∧ ¬ (0 ≤ v ∧ v ≤ 2)) (h2 : (0 ≤ s ∧ s < f 568) ∧ ¬ (0 ≤ j ∧ j < segC (fun x => hnd f s x (f 571)))) : False := by
  first
  | omega
  | (simp_all; done)
  | (simp_all; omega)
theorem nx_stayAt_2_3 {s : Int} {f : sF} {j : Int} {v : Int} (h1 : (0 ≤ s ∧ s < f 568) ∧ (0 ≤ j ∧ j < segC (fun x => hnd f s x (f 571))) ∧ ¬ (0 ≤ v ∧ v ≤ 2)) (h2 : (0 ≤ s ∧ s < f 568) ∧ (0 ≤ j ∧ j < segC (fun x => hnd f s x (f 571))) ∧ v = 0) : False := by
  first
  | omega
  | (simp_all; done)
  | (simp_all; omega)
theorem nx_stayAt_2_4 {s : Int} {f : sF} {j : Int} {v : Int} (h1 : (0 ≤ s ∧ s < f 568) ∧ (0 ≤ j ∧ j < segC (fun x => hnd f s x (f 571))) ∧ ¬ (0 ≤ v ∧ v ≤ 2)) (h2 : (0 ≤ s ∧ s < f 568) ∧ (0 ≤ j ∧ j < segC (fun x => hnd f s x (f 571))) ∧ v = 1) : False := by
  first
  | omega
  | (simp_all; done)
  | (simp_all; omega)
theorem nx_stayAt_2_5 {s : Int} {f : sF} {j : Int} {v : Int} (h1 : (0 ≤ s ∧ s < f 568) ∧ (0 ≤ j ∧ j < segC (fun x => hnd f s x (f 571))) ∧ ¬ (0 ≤ v ∧ v ≤ 2)) (h2 : (0 ≤ s ∧ s < f 568) ∧ (0 ≤ j ∧ j < segC (fun x => hnd f s x (f 571))) ∧ v = 2) : False := by
  first
  | omega
  | (simp_all; done)
  | (simp_all; omega)
theorem nx_stayAt_3_0 {s : Int} {f : sF} {j : Int} {v : Int} (h1 : (0 ≤ s ∧ s < f 568) ∧ (0 ≤ j ∧ j < segC (fun x => hnd f s x (f 571))) ∧ v = 0) (h2 : ¬ (0 ≤ s ∧ s < f 568)) : False := by
  first
  | omega
  | (simp_all; done)
  | (simp_all; omega)
theorem nx_stayAt_3_1 {s : Int} {f : sF} {j : Int} {v : Int} (h1 : (0 ≤ s ∧ s < f 568) ∧ (0 ≤ j ∧ j < segC (fun x => hnd f s x (f 571))) ∧ v = 0) (h2 : (0 ≤ s ∧ s < f 568) ∧ ¬ (0 ≤ j ∧ j < segC (fun x => hnd f s x (f 571)))) : False := by
  first
  | omega
  | (simp_all; done)
  | (simp_all; omega)
theorem nx_stayAt_3_2 {s : Int} {f : sF} {j : Int} {v : Int} (h1 : (0 ≤ s ∧ s < f 568) ∧ (0 ≤ j ∧ j < segC (fun x => hnd f s x (f 571))) ∧ v = 0) (h2 : (0 ≤ s ∧ s < f 568) ∧ (0 ≤ j ∧ j < segC (fun x => hnd f s x (f 571))) ∧ ¬ (0 ≤ v ∧ v ≤ 2)) : False := by
  first
  | omega
  | (simp_all; done)
  | (simp_all; omega)
theorem nx_stayAt_3_4 {s : Int} {f : sF} {j : Int} {v : Int} (h1 : (0 ≤ s ∧ s < f 568) ∧ (0 ≤ j ∧ j < segC (fun x => hnd f s x (f 571))) ∧ v = 0) (h2 : (0 ≤ s ∧ s < f 568) ∧ (0 ≤ j ∧ j < segC (fun x => hnd f s x (f 571))) ∧ v = 1) : False := by
  first
  | omega
  | (simp_all; done)
  | (simp_all; omega)
theorem nx_stayAt_3_5 {s : Int} {f : sF} {j : Int} {v : Int} (h1 : (0 ≤ s ∧ s < f 568) ∧ (0 ≤ j ∧ j < segC (fun x => hnd f s x (f 571))) ∧ v = 0) (h2 : (0 ≤ s ∧ s < f 568) ∧ (0 ≤ j ∧ j < segC (fun x => hnd f s x (f 571))) ∧ v = 2) : False := by
  first
  | omega
  | (simp_all; done)
  | (simp_all; omega)
theorem nx_stayAt_4_0 {s : Int} {f : sF} {j : Int} {v : Int} (h1 : (0 ≤ s ∧ s < f 568) ∧ (0 ≤ j ∧ j < segC (fun x => hnd f s x (f 571))) ∧ v = 1) (h2 : ¬ (0 ≤ s ∧ s < f 568)) : False := by
  first
  | omega
  | (simp_all; done)
  | (simp_all; omega)
theorem nx_stayAt_4_1 {s : Int} {f : sF} {j : Int} {v : Int} (h1 : (0 ≤ s ∧ s < f 568) ∧ (0 ≤ j ∧ j < segC (fun x => hnd f s x (f 571))) ∧ v = 1) (h2 : (0 ≤ s ∧ s < f 568) ∧ ¬ (0 ≤ j ∧ j < segC (fun x => hnd f s x (f 571)))) : False := by
  first
  | omega
  | (simp_all; done)
  | (simp_all; omega)
theorem nx_stayAt_4_2 {s : Int} {f : sF} {j : Int} {v : Int} (h1 : (0 ≤ s ∧ s < f 568) ∧ (0 ≤ j ∧ j < segC (fun x => hnd f s x (f 571))) ∧ v = 1) (h2 : (0 ≤ s ∧ s < f 568) ∧ (0 ≤ j ∧ j < segC (fun x => hnd f s x (f 571))) ∧ ¬ (0 ≤ v ∧ v ≤ 2)) : False := by
  first
  | omega
  | (simp_all; done)
  | (simp_all; omega)
theorem nx_stayAt_4_3 {s : Int} {f : sF} {j : Int} {v : Int} (h1 : (0 ≤ s ∧ s < f 568) ∧ (0 ≤ j ∧ j < segC (fun x => hnd f s x (f 571))) ∧ v = 1) (h2 : (0 ≤ s ∧ s < f 568) ∧ (0 ≤ j ∧ j < segC (fun x => hnd f s x (f 571))) ∧ v = 0) : False := by
  first
  | omega
  | (simp_all; done)
  | (simp_all; omega)
theorem nx_stayAt_4_5 {s : Int} {f : sF} {j : Int} {v : Int} (h1 : (0 ≤ s ∧ s < f 568) ∧ (0 ≤ j ∧ j < segC (fun x => hnd f s x (f 571))) ∧ v = 1) (h2 : (0 ≤ s ∧ s < f 568) ∧ (0 ≤ j ∧ j < segC (fun x => hnd f s x (f 571))) ∧ v = 2) : False := by
  first
  | omega
  | (simp_all; done)
  | (simp_all; omega)
theorem nx_stayAt_5_0 {s : Int} {f : sF} {j : Int} {v : Int} (h1 : (0 ≤ s ∧ s < f 568) ∧ (0 ≤ j ∧ j < segC (fun x => hnd f s x (f 571))) ∧ v = 2) (h2 : ¬ (0 ≤ s ∧ s < f 568)) : False := by
  first
  | omega
  | (simp_all; done)
  | (simp_all; omega)
theorem nx_stayAt_5_1 {s : Int} {f : sF} {j : Int} {v : Int} (h1 : (0 ≤ s ∧ s < f 568) ∧ (0 ≤ j ∧ j < segC (fun x => hnd f s x (f 571))) ∧ v = 2) (h2 : (0 ≤ s ∧ s < f 568) ∧ ¬ (0 ≤ j ∧ j < segC (fun x => hnd f s x (f 571)))) : False := by
  first
  | omega
  | (simp_all; done)
  | (simp_all; omega)
theorem nx_stayAt_5_2 {s : Int} {f : sF} {j : Int} {v : Int} (h1 : (0 ≤ s ∧ s < f 568) ∧ (0 ≤ j ∧ j < segC (fun x => hnd f s x (f 571))) ∧ v = 2) (h2 : (0 ≤ s ∧ s < f 568) ∧ (0 ≤ j ∧ j < segC (fun x => hnd f s x (f 571))) ∧ ¬ (0 ≤ v ∧ v ≤ 2)) : False := by
  first
  | omega
  | (simp_all; done)
  | (simp_all; omega)
theorem nx_stayAt_5_3 {s : Int} {f : sF} {j : Int} {v : Int} (h1 : (0 ≤ s ∧ s < f 568) ∧ (0 ≤ j ∧ j < segC (fun x => hnd f s x (f 571))) ∧ v = 2) (h2 : (0 ≤ s ∧ s < f 568) ∧ (0 ≤ j ∧ j < segC (fun x => hnd f s x (f 571))) ∧ v = 0) : False := by
  first
  | omega
  | (simp_all; done)
  | (simp_all; omega)
theorem nx_stayAt_5_4 {s : Int} {f : sF} {j : Int} {v : Int} (h1 : (0 ≤ s ∧ s < f 568) ∧ (0 ≤ j ∧ j < segC (fun x => hnd f s x (f 571))) ∧ v = 2) (h2 : (0 ≤ s ∧ s < f 568) ∧ (0 ≤ j ∧ j < segC (fun x => hnd f s x (f 571))) ∧ v = 1) : False := by
  first
  | omega
  | (simp_all; done)
  | (simp_all; omega)
set_option maxHeartbeats 4000000 in
set_option maxRecDepth 100000 in
theorem law_27 {p_ : Program} {l_ : Launch} {e_ : Env} {s_ : State} {m_ : MethodId} {args_ : Array Value} {below_ : List Frame} {meth_ : Method} {c_ : Code} {nm_ : String} {G : sG} {b_ : Nat} {M0 : sM} {N0 : Nat} {Q : State → Prop} (E : sE p_ l_ e_ room_1 s_ m_ args_ below_ meth_ c_ cL_law 9 wsL_law RL nm_ (some .boolean) G b_ M0 N0) (hF_ : xcF s_) (hlt : l_.stackTraces = false) {z L : Nat} {xs : Nat → Int32} (hX : va_X z L xs s_ s_.heap) (hzb : z < b_) {c m o kb : Nat} (hg : c + 60 ≤ m ∧ m + 16 ≤ o ∧ o < kb) {cc_ ss_ : Nat} (hcc : cc_ + 1170 ≤ room_1.cells ∧ ss_ + 14000 ≤ room_1.slots) {q i : Int} (hi : 0 ≤ i ∧ i + 6 ≤ L ∧ (L : Int) ≤ 3072) (hq : 0 ≤ q ∧ q ≤ 600) {M : sM} {N : Nat} (hkN : kb ≤ N) (hI : lI G M c m o kb q) {H : Heap} {locs : List Loc} {ls : Array Slot} (hV : sV G b_ M N s_ H locs) (hl : lv_has ls 9 [(0, .ref z), (1, .ref c), (2, .ref m), (3, .ref o), (4, .int (sI i))])
    (hk : ∀ (M1 : sM) (N1 : Nat) (H1 : Heap) (locs1 : List Loc) (ls1 : Array Slot), kb ≤ N1 → lI G M1 c m o kb (q + 1) → sV G b_ M1 N1 s_ H1 locs1 → lv_has ls1 9 [(0, .ref z), (1, .ref c), (2, .ref m), (3, .ref o), (4, .int (sI i))] → W p_ l_ e_ room_1 s_ m_ args_ below_ meth_ c_ H1 locs1 (cc_ + 1170) (ss_ + 14000) Q (F0 m_ 2853 ls1 [])) : W p_ l_ e_ room_1 s_ m_ args_ below_ meth_ c_ H locs cc_ ss_ Q (F0 m_ 1827 ls []) := by
  have S := E.1
  have hx_ := S.1
  have hb_ := S.2.1
  have hK := E.2.2.2.2.1
  have hI2 := hI
  obtain ⟨kn, ch, f, fs, tn, te, t, wc, wn, T, T2, th, sn, nm, g0, A4, A5, A6, A7, A8, A9, A10, A11, A12, A13, A14, hc0, hst, htr, hkp, ht0, ht1, hct, hft, hly, hkn, hex, hm0, hm1, hsv, hm3, hm4, hm5, hm6, hm7, hm8, hm9, hm10, hm11, hm12, hm13, hm14, hm15, ho9, hlF, htp, hwr⟩ := hI2
  have hok := hlF.1.1
  have hdI := hlF.1.2.1
  have hsL := hlF.1.2.2.1
  have hclk := hlF.1.2.2.2
  have hchr : 0 ≤ ch ∧ ch ≤ 15 := ⟨hkp.r.2.2.1, hkp.r.2.2.2⟩
  have htp1 := htp.1
  have htp2 := htp.2.1
  have hwq := wrQ_e hwr
  have hwq1 := hwq.1
  have hwq2 := hwq.2.1
  have kn0 := sOk_N hok
  refine lv_aload_n hx_ hb_ dL_law_1827 rfl (lv_at hl 1 rfl) ?_
  refine lv_aload_n hx_ hb_ dL_law_1828 rfl (lv_at hl 0 rfl) ?_
  refine lv_iload hx_ hb_ dL_law_1829 (lv_at hl 4 rfl) ?_
  refine si_const S dL_law_1831 ?_
  refine si_add S dL_law_1832 ?_
  refine sc_sld S hV hX hzb (by omega) dL_law_1833 ?_
  refine lv_aload_n hx_ hb_ dL_law_1834 rfl (lv_at hl 0 rfl) ?_
  refine lv_iload hx_ hb_ dL_law_1835 (lv_at hl 4 rfl) ?_
  refine si_const S dL_law_1837 ?_
  refine si_add S dL_law_1838 ?_
  refine sc_sld S hV hX hzb (by omega) dL_law_1839 ?_
  refine lv_aload_n hx_ hb_ dL_law_1840 rfl (lv_at hl 0 rfl) ?_
  refine lv_iload hx_ hb_ dL_law_1841 (lv_at hl 4 rfl) ?_
  refine si_const S dL_law_1843 ?_
  refine si_add S dL_law_1844 ?_
  refine sc_sld S hV hX hzb (by omega) dL_law_1845 ?_
  refine lv_aload_n hx_ hb_ dL_law_1846 rfl (lv_at hl 3 rfl) ?_
  refine yk_Si (hh := [(0, 12, 15, 25), (0, 12, 19, 19)]) E hF_ hV (As := [.ref c, .int (sI (lX xs (i + 1))), .int (sI (lX xs (i + 2))), .int (sI (lX xs (i + 3))), .ref o]) (rest := []) (kL_stayAt l_ G b_ M N o g0 c kn ch f (lX xs (i + 1)) (lX xs (i + 2)) (lX xs (i + 3)) hc0 hst hkn ho9 (hlt) (hok) (⟨lX_r xs _, lX_r xs _, lX_r xs _⟩) (by omega)) (vx_cwSW 5 S.2.2.2.2 gL_law_L_stayAt rfl rfl rfl (by decide +kernel) ⟨Nat.le_of_ble_eq_true rfl, Nat.le_of_ble_eq_true rfl⟩) rfl rfl hl.1 (Nat.le_of_ble_eq_true rfl) dL_law_1847 (c1 := cc_ + 10) (s1 := ss_ + 60) ⟨⟨rfl, rfl⟩, by omega, by omega⟩ (fun z4 M1 N2 H locs hp3 hV => ?_)
  obtain ⟨hN5, hc6, hf7, hq8⟩ := hp3
  rcases hq8 with ⟨c9, ez10, hc11⟩ | ⟨c12, ez13, hc14⟩ | ⟨c15, ez16, hc17⟩ | ⟨c18, ez19, hc20⟩ | ⟨c21, ez22, hc23⟩ | ⟨c24, ez25, hc26⟩
  · rw [ez10]
    refine lv_istore (lv' := [(5, .int (sI 1)), (0, .ref z), (1, .ref c), (2, .ref m), (3, .ref o), (4, .int (sI i))]) hx_ hb_ dL_law_1850 hl (by decide) rfl (fun ls hl => ?_)
    refine lv_aload_n hx_ hb_ dL_law_1852 rfl (lv_at hl 3 rfl) ?_
    refine lv_aload_n hx_ hb_ dL_law_1853 rfl (lv_at hl 1 rfl) ?_
    refine lv_iload hx_ hb_ dL_law_1854 (lv_at hl 5 rfl) ?_
    refine si_const S dL_law_1856 ?_
    refine si_add S dL_law_1857 ?_
    refine sc_sld S hV hX hzb (by omega) dL_law_1858 ?_
    refine lv_aload_n hx_ hb_ dL_law_1859 rfl (lv_at hl 1 rfl) ?_
    refine lv_iload hx_ hb_ dL_law_1860 (lv_at hl 5 rfl) ?_
    refine si_const S dL_law_1862 ?_
    refine si_add S dL_law_1863 ?_
    refine sc_sld S hV hX hzb (by omega) dL_law_1864 ?_
    refine lv_aload_n hx_ hb_ dL_law_1865 rfl (lv_at hl 1 rfl) ?_
    refine lv_iload hx_ hb_ dL_law_1866 (lv_at hl 5 rfl) ?_
    refine si_const S dL_law_1868 ?_
    refine si_add S dL_law_1869 ?_
    refine sc_sld S hV hX hzb (by omega) dL_law_1870 ?_
    have ga28 : ∀ x : Nat, m ≤ x → x < m + 16 → M1 x = M x := fun x u1 u2 => hf7 x (by omega) (by omega)
    have hc27 : M1 m = some (mO m th ch tn te sn nm wn) := (ga28 m (by omega) (by omega)).trans hm0
    have hc29 : M1 (m + 1) = some (sArr G 574 f) := (ga28 ((m + 1)) (by omega) (by omega)).trans hm1
    have hc30 : M1 (m + 9) = some (sArr G 62 A9) := (ga28 ((m + 9)) (by omega) (by omega)).trans hm9
    refine sk_Vi E hV (As := [.int (sI (lX xs (i + 1))), .int (sI (lX xs (i + 2))), .int (sI (lX xs (i + 3)))]) (rest := []) (kX11_stayAt l_ G b_ M1 N2 m th ch tn te sn nm wn f A9 (lX xs (i + 1)) (lX xs (i + 2)) (lX xs (i + 3)) hc27 hc29 hc30 (hok) (⟨lX_r xs _, lX_r xs _, lX_r xs _⟩)) (cwV 3 S.2.2.2.2 gL_law_X11_stayAt rfl rfl rfl (by decide +kernel) ⟨Nat.le_of_ble_eq_true rfl, Nat.le_of_ble_eq_true rfl⟩) (ci := 9) hc27 rfl rfl rfl hl.1 (Nat.le_of_ble_eq_true rfl) dL_law_1871 (c1 := cc_ + 10) (s1 := ss_ + 60) ⟨⟨rfl, rfl⟩, by omega, by omega⟩ (fun z34 M31 N32 H locs hp33 hV => ?_)
    obtain ⟨c935, D936, hN37, hc38, hf39, hq40⟩ := hp33
    rw [hN37] at hV
    rcases hq40 with ⟨c41, ez42, hc43⟩ | ⟨c44, ez45, hc46⟩ | ⟨c47, ez48, hc49⟩ | ⟨c50, ez51, hc52⟩ | ⟨c53, ez54, hc55⟩ | ⟨c56, ez57, hc58⟩
    · rw [ez42]
      refine lv_istore (lv' := [(6, .int (sI 0)), (5, .int (sI 1)), (0, .ref z), (1, .ref c), (2, .ref m), (3, .ref o), (4, .int (sI i))]) hx_ hb_ dL_law_1874 hl (by decide) rfl (fun ls hl => ?_)
      refine lv_aload_n hx_ hb_ dL_law_1876 rfl (lv_at hl 4 rfl) ?_
      refine sk_VP E hV (As := []) (rest := []) (kX11_thrown l_ G b_ M31 N2 m 1 ch tn te c935 nm wn hc43) (cwV 0 S.2.2.2.2 gL_law_X11_thrown rfl rfl rfl (by decide +kernel) ⟨Nat.le_of_ble_eq_true rfl, Nat.le_of_ble_eq_true rfl⟩) (ci := 9) hc43 rfl rfl rfl hl.1 (Nat.le_of_ble_eq_true rfl) dL_law_1877 (c1 := cc_ + 10) (s1 := ss_ + 60) ⟨⟨rfl, rfl⟩, by omega, by omega⟩ (fun H locs hV => ?_)
      refine lv_iload hx_ hb_ dL_law_1880 (lv_at hl 1 rfl) ?_
      refine sb_eq (tgt := 1887) S dL_law_1882 (by decide) (by omega) (fun _ => ?_) (fun c59 => absurd c59 (by omega))
      refine lv_iload hx_ hb_ dL_law_1887 (lv_at hl 1 rfl) ?_
      refine sz_ne (tgt := 1904) S dL_law_1889 (by decide) (by omega) (fun _ => ?_) (fun c60 => absurd c60 (by omega))
      refine lv_goto (tgt := 2853) hx_ hb_ dL_law_1904 (by decide) ?_
      have gb62 : ∀ x : Nat, (x < m ∨ m + 16 ≤ x) → M31 x = M1 x := fun x u1 => hf39 x (by omega) (by omega)
      have hc61 : M31 c = some (xO c kn ch) := ((gb62 c (by omega)).trans (hf7 c (by omega) (by omega))).trans hc0
      have hc63 : stC G M31 (c + 1) f := hst.fr (fun x q8 q9 => (gb62 x (by omega)).trans (hf7 x (by omega) (by omega)))
      have hc64 : triC G M31 (c + 16) := htr.fr (fun x q8 q9 => (gb62 x (by omega)).trans (hf7 x (by omega) (by omega)))
      have hc65 : kpC G M31 (c + 31) kb kn ch fs := hkp.fr (fun x q8 => (gb62 x (by omega)).trans (hf7 x (by omega) (by omega)))
      have hc66 : M31 (c + 32) = some (sObj 7 [.ref (c + 33), .int (sI tn), .int (sI te)]) := ((gb62 ((c + 32)) (by omega)).trans (hf7 (c + 32) (by omega) (by omega))).trans ht0
      have hc67 : M31 (c + 33) = some (sArr G 300 t) := ((gb62 ((c + 33)) (by omega)).trans (hf7 (c + 33) (by omega) (by omega))).trans ht1
      have hc68 : catC G M31 (c + 34) wc T := hct.fr (fun x q8 q9 => (gb62 x (by omega)).trans (hf7 x (by omega) (by omega)))
      have hc69 : orfC G M31 (c + 38) := hft.fr (fun x q8 q9 => (gb62 x (by omega)).trans (hf7 x (by omega) (by omega)))
      have hc70 : layC G M31 (c + 48) := hly.fr (fun x q8 q9 => (gb62 x (by omega)).trans (hf7 x (by omega) (by omega)))
      have hc71 : knoC G M31 (c + 54) := hc6.fr (fun x q8 q9 => gb62 x (by omega))
      have hc72 : excC G M31 (c + 57) := hex.fr (fun x q8 q9 => (gb62 x (by omega)).trans (hf7 x (by omega) (by omega)))
      have hc73 : M31 (m + 1) = some (sArr G 574 f) := (hf39 (m + 1) (by omega) (by omega)).trans hc29
      have hc74 : svC G M31 (m + 2) ch fs := hsv.fr (fun x q8 q9 => (hf39 x (by omega) (by omega)).trans (ga28 x (by omega) (by omega)))
      have hc75 : M31 (m + 3) = some (sArr G 300 t) := ((hf39 (m + 3) (by omega) (by omega)).trans (ga28 ((m + 3)) (by omega) (by omega))).trans hm3
      have hc76 : M31 (m + 4) = some (sArr G 11 A4) := ((hf39 (m + 4) (by omega) (by omega)).trans (ga28 ((m + 4)) (by omega) (by omega))).trans hm4
      have hc77 : M31 (m + 5) = some (sArr G 1024 A5) := ((hf39 (m + 5) (by omega) (by omega)).trans (ga28 ((m + 5)) (by omega) (by omega))).trans hm5
      have hc78 : M31 (m + 6) = some (sArr G 1024 A6) := ((hf39 (m + 6) (by omega) (by omega)).trans (ga28 ((m + 6)) (by omega) (by omega))).trans hm6
      have hc79 : M31 (m + 7) = some (sArr G 10 A7) := ((hf39 (m + 7) (by omega) (by omega)).trans (ga28 ((m + 7)) (by omega) (by omega))).trans hm7
      have hc80 : M31 (m + 8) = some (sArr G 10 A8) := ((hf39 (m + 8) (by omega) (by omega)).trans (ga28 ((m + 8)) (by omega) (by omega))).trans hm8
      have hc81 : M31 (m + 10) = some (sArr G 8 A10) := ((hf39 (m + 10) (by omega) (by omega)).trans (ga28 ((m + 10)) (by omega) (by omega))).trans hm10
      have hc82 : M31 (m + 11) = some (sArr G 8 A11) := ((hf39 (m + 11) (by omega) (by omega)).trans (ga28 ((m + 11)) (by omega) (by omega))).trans hm11
      have hc83 : M31 (m + 12) = some (sArr G 60 A12) := ((hf39 (m + 12) (by omega) (by omega)).trans (ga28 ((m + 12)) (by omega) (by omega))).trans hm12
      have hc84 : M31 (m + 13) = some (sArr G 240 A13) := ((hf39 (m + 13) (by omega) (by omega)).trans (ga28 ((m + 13)) (by omega) (by omega))).trans hm13
      have hc85 : M31 (m + 14) = some (sArr G 574 A14) := ((hf39 (m + 14) (by omega) (by omega)).trans (ga28 ((m + 14)) (by omega) (by omega))).trans hm14
      have hc86 : M31 (m + 15) = some (sArr G 200 T2) := ((hf39 (m + 15) (by omega) (by omega)).trans (ga28 ((m + 15)) (by omega) (by omega))).trans hm15
      have hc87 : M31 o = some (sArL G 1 g0) := (gb62 o (by omega)).trans hc11
      exact W.widen (by omega) (by omega) (hk _ _ _ _ _ (by omega) ⟨_, _, _, _, _, _, _, _, _, _, _, _, _, _, _, _, _, _, _, _, _, _, _, _, _, _, hc61, hc63, hc64, hc65, hc66, hc67, hc68, hc69, hc70, hc71, hc72, hc43, hc73, hc74, hc75, hc76, hc77, hc78, hc79, hc80, hc38, hc81, hc82, hc83, hc84, hc85, hc86, hc87, lF_s hlF, htp, hwr⟩ hV (lv_sub hl [2, 3, 4, 5, 6] rfl))
    · rw [ez45]
      exact (nx_stayAt_0_1 c9 c44).elim
    · rw [ez48]
      exact (nx_stayAt_0_2 c9 c47).elim
    · rw [ez51]
      exact (nx_stayAt_0_3 c9 c50).elim
    · rw [ez54]
      exact (nx_stayAt_0_4 c9 c53).elim
    · rw [ez57]
      exact (nx_stayAt_0_5 c9 c56).elim
  · rw [ez13]
    refine lv_istore (lv' := [(5, .int (sI 1)), (0, .ref z), (1, .ref c), (2, .ref m), (3, .ref o), (4, .int (sI i))]) hx_ hb_ dL_law_1850 hl (by decide) rfl (fun ls hl => ?_)
    refine lv_aload_n hx_ hb_ dL_law_1852 rfl (lv_at hl 3 rfl) ?_
    refine lv_aload_n hx_ hb_ dL_law_1853 rfl (lv_at hl 1 rfl) ?_
    refine lv_iload hx_ hb_ dL_law_1854 (lv_at hl 5 rfl) ?_
    refine si_const S dL_law_1856 ?_
    refine si_add S dL_law_1857 ?_
    refine sc_sld S hV hX hzb (by omega) dL_law_1858 ?_
    refine lv_aload_n hx_ hb_ dL_law_1859 rfl (lv_at hl 1 rfl) ?_
    refine lv_iload hx_ hb_ dL_law_1860 (lv_at hl 5 rfl) ?_
    refine si_const S dL_law_1862 ?_
    refine si_add S dL_law_1863 ?_
    refine sc_sld S hV hX hzb (by omega) dL_law_1864 ?_
    refine lv_aload_n hx_ hb_ dL_law_1865 rfl (lv_at hl 1 rfl) ?_
    refine lv_iload hx_ hb_ dL_law_1866 (lv_at hl 5 rfl) ?_
    refine si_const S dL_law_1868 ?_
    refine si_add S dL_law_1869 ?_
    refine sc_sld S hV hX hzb (by omega) dL_law_1870 ?_
    have ga89 : ∀ x : Nat, m ≤ x → x < m + 16 → M1 x = M x := fun x u1 u2 => hf7 x (by omega) (by omega)
    have hc88 : M1 m = some (mO m th ch tn te sn nm wn) := (ga89 m (by omega) (by omega)).trans hm0
    have hc90 : M1 (m + 1) = some (sArr G 574 f) := (ga89 ((m + 1)) (by omega) (by omega)).trans hm1
    have hc91 : M1 (m + 9) = some (sArr G 62 A9) := (ga89 ((m + 9)) (by omega) (by omega)).trans hm9
    refine sk_Vi E hV (As := [.int (sI (lX xs (i + 1))), .int (sI (lX xs (i + 2))), .int (sI (lX xs (i + 3)))]) (rest := []) (kX11_stayAt l_ G b_ M1 N2 m th ch tn te sn nm wn f A9 (lX xs (i + 1)) (lX xs (i + 2)) (lX xs (i + 3)) hc88 hc90 hc91 (hok) (⟨lX_r xs _, lX_r xs _, lX_r xs _⟩)) (cwV 3 S.2.2.2.2 gL_law_X11_stayAt rfl rfl rfl (by decide +kernel) ⟨Nat.le_of_ble_eq_true rfl, Nat.le_of_ble_eq_true rfl⟩) (ci := 9) hc88 rfl rfl rfl hl.1 (Nat.le_of_ble_eq_true rfl) dL_law_1871 (c1 := cc_ + 10) (s1 := ss_ + 60) ⟨⟨rfl, rfl⟩, by omega, by omega⟩ (fun z95 M92 N93 H locs hp94 hV => ?_)
    obtain ⟨c996, D997, hN98, hc99, hf100, hq101⟩ := hp94
    rw [hN98] at hV
    rcases hq101 with ⟨c102, ez103, hc104⟩ | ⟨c105, ez106, hc107⟩ | ⟨c108, ez109, hc110⟩ | ⟨c111, ez112, hc113⟩ | ⟨c114, ez115, hc116⟩ | ⟨c117, ez118, hc119⟩
    · rw [ez103]
      exact (nx_stayAt_1_0 c12 c102).elim
    · rw [ez106]
      refine lv_istore (lv' := [(6, .int (sI 0)), (5, .int (sI 1)), (0, .ref z), (1, .ref c), (2, .ref m), (3, .ref o), (4, .int (sI i))]) hx_ hb_ dL_law_1874 hl (by decide) rfl (fun ls hl => ?_)
      refine lv_aload_n hx_ hb_ dL_law_1876 rfl (lv_at hl 4 rfl) ?_
      refine sk_VP E hV (As := []) (rest := []) (kX11_thrown l_ G b_ M92 N2 m 1 ch tn te c996 nm wn hc107) (cwV 0 S.2.2.2.2 gL_law_X11_thrown rfl rfl rfl (by decide +kernel) ⟨Nat.le_of_ble_eq_true rfl, Nat.le_of_ble_eq_true rfl⟩) (ci := 9) hc107 rfl rfl rfl hl.1 (Nat.le_of_ble_eq_true rfl) dL_law_1877 (c1 := cc_ + 10) (s1 := ss_ + 60) ⟨⟨rfl, rfl⟩, by omega, by omega⟩ (fun H locs hV => ?_)
      refine lv_iload hx_ hb_ dL_law_1880 (lv_at hl 1 rfl) ?_
      refine sb_eq (tgt := 1887) S dL_law_1882 (by decide) (by omega) (fun _ => ?_) (fun c120 => absurd c120 (by omega))
      refine lv_iload hx_ hb_ dL_law_1887 (lv_at hl 1 rfl) ?_
      refine sz_ne (tgt := 1904) S dL_law_1889 (by decide) (by omega) (fun _ => ?_) (fun c121 => absurd c121 (by omega))
      refine lv_goto (tgt := 2853) hx_ hb_ dL_law_1904 (by decide) ?_
      have gb123 : ∀ x : Nat, (x < m ∨ m + 16 ≤ x) → M92 x = M1 x := fun x u1 => hf100 x (by omega) (by omega)
      have hc122 : M92 c = some (xO c kn ch) := ((gb123 c (by omega)).trans (hf7 c (by omega) (by omega))).trans hc0
      have hc124 : stC G M92 (c + 1) f := hst.fr (fun x q8 q9 => (gb123 x (by omega)).trans (hf7 x (by omega) (by omega)))
      have hc125 : triC G M92 (c + 16) := htr.fr (fun x q8 q9 => (gb123 x (by omega)).trans (hf7 x (by omega) (by omega)))
      have hc126 : kpC G M92 (c + 31) kb kn ch fs := hkp.fr (fun x q8 => (gb123 x (by omega)).trans (hf7 x (by omega) (by omega)))
      have hc127 : M92 (c + 32) = some (sObj 7 [.ref (c + 33), .int (sI tn), .int (sI te)]) := ((gb123 ((c + 32)) (by omega)).trans (hf7 (c + 32) (by omega) (by omega))).trans ht0
      have hc128 : M92 (c + 33) = some (sArr G 300 t) := ((gb123 ((c + 33)) (by omega)).trans (hf7 (c + 33) (by omega) (by omega))).trans ht1
      have hc129 : catC G M92 (c + 34) wc T := hct.fr (fun x q8 q9 => (gb123 x (by omega)).trans (hf7 x (by omega) (by omega)))
      have hc130 : orfC G M92 (c + 38) := hft.fr (fun x q8 q9 => (gb123 x (by omega)).trans (hf7 x (by omega) (by omega)))
      have hc131 : layC G M92 (c + 48) := hly.fr (fun x q8 q9 => (gb123 x (by omega)).trans (hf7 x (by omega) (by omega)))
      have hc132 : knoC G M92 (c + 54) := hc6.fr (fun x q8 q9 => gb123 x (by omega))
      have hc133 : excC G M92 (c + 57) := hex.fr (fun x q8 q9 => (gb123 x (by omega)).trans (hf7 x (by omega) (by omega)))
      have hc134 : M92 (m + 1) = some (sArr G 574 f) := (hf100 (m + 1) (by omega) (by omega)).trans hc90
      have hc135 : svC G M92 (m + 2) ch fs := hsv.fr (fun x q8 q9 => (hf100 x (by omega) (by omega)).trans (ga89 x (by omega) (by omega)))
      have hc136 : M92 (m + 3) = some (sArr G 300 t) := ((hf100 (m + 3) (by omega) (by omega)).trans (ga89 ((m + 3)) (by omega) (by omega))).trans hm3
      have hc137 : M92 (m + 4) = some (sArr G 11 A4) := ((hf100 (m + 4) (by omega) (by omega)).trans (ga89 ((m + 4)) (by omega) (by omega))).trans hm4
      have hc138 : M92 (m + 5) = some (sArr G 1024 A5) := ((hf100 (m + 5) (by omega) (by omega)).trans (ga89 ((m + 5)) (by omega) (by omega))).trans hm5
      have hc139 : M92 (m + 6) = some (sArr G 1024 A6) := ((hf100 (m + 6) (by omega) (by omega)).trans (ga89 ((m + 6)) (by omega) (by omega))).trans hm6
      have hc140 : M92 (m + 7) = some (sArr G 10 A7) := ((hf100 (m + 7) (by omega) (by omega)).trans (ga89 ((m + 7)) (by omega) (by omega))).trans hm7
      have hc141 : M92 (m + 8) = some (sArr G 10 A8) := ((hf100 (m + 8) (by omega) (by omega)).trans (ga89 ((m + 8)) (by omega) (by omega))).trans hm8
      have hc142 : M92 (m + 10) = some (sArr G 8 A10) := ((hf100 (m + 10) (by omega) (by omega)).trans (ga89 ((m + 10)) (by omega) (by omega))).trans hm10
      have hc143 : M92 (m + 11) = some (sArr G 8 A11) := ((hf100 (m + 11) (by omega) (by omega)).trans (ga89 ((m + 11)) (by omega) (by omega))).trans hm11
      have hc144 : M92 (m + 12) = some (sArr G 60 A12) := ((hf100 (m + 12) (by omega) (by omega)).trans (ga89 ((m + 12)) (by omega) (by omega))).trans hm12
      have hc145 : M92 (m + 13) = some (sArr G 240 A13) := ((hf100 (m + 13) (by omega) (by omega)).trans (ga89 ((m + 13)) (by omega) (by omega))).trans hm13
      have hc146 : M92 (m + 14) = some (sArr G 574 A14) := ((hf100 (m + 14) (by omega) (by omega)).trans (ga89 ((m + 14)) (by omega) (by omega))).trans hm14
      have hc147 : M92 (m + 15) = some (sArr G 200 T2) := ((hf100 (m + 15) (by omega) (by omega)).trans (ga89 ((m + 15)) (by omega) (by omega))).trans hm15
      have hc148 : M92 o = some (sArL G 1 g0) := (gb123 o (by omega)).trans hc14
      exact W.widen (by omega) (by omega) (hk _ _ _ _ _ (by omega) ⟨_, _, _, _, _, _, _, _, _, _, _, _, _, _, _, _, _, _, _, _, _, _, _, _, _, _, hc122, hc124, hc125, hc126, hc127, hc128, hc129, hc130, hc131, hc132, hc133, hc107, hc134, hc135, hc136, hc137, hc138, hc139, hc140, hc141, hc99, hc142, hc143, hc144, hc145, hc146, hc147, hc148, lF_s hlF, htp, hwr⟩ hV (lv_sub hl [2, 3, 4, 5, 6] rfl))
    · rw [ez109]
      exact (nx_stayAt_1_2 c12 c108).elim
    · rw [ez112]
      exact (nx_stayAt_1_3 c12 c111).elim
    · rw [ez115]
      exact (nx_stayAt_1_4 c12 c114).elim
    · rw [ez118]
      exact (nx_stayAt_1_5 c12 c117).elim
  · rw [ez16]
    refine lv_istore (lv' := [(5, .int (sI 2)), (0, .ref z), (1, .ref c), (2, .ref m), (3, .ref o), (4, .int (sI i))]) hx_ hb_ dL_law_1850 hl (by decide) rfl (fun ls hl => ?_)
    refine lv_aload_n hx_ hb_ dL_law_1852 rfl (lv_at hl 3 rfl) ?_
    refine lv_aload_n hx_ hb_ dL_law_1853 rfl (lv_at hl 1 rfl) ?_
    refine lv_iload hx_ hb_ dL_law_1854 (lv_at hl 5 rfl) ?_
    refine si_const S dL_law_1856 ?_
    refine si_add S dL_law_1857 ?_
    refine sc_sld S hV hX hzb (by omega) dL_law_1858 ?_
    refine lv_aload_n hx_ hb_ dL_law_1859 rfl (lv_at hl 1 rfl) ?_
    refine lv_iload hx_ hb_ dL_law_1860 (lv_at hl 5 rfl) ?_
    refine si_const S dL_law_1862 ?_
    refine si_add S dL_law_1863 ?_
    refine sc_sld S hV hX hzb (by omega) dL_law_1864 ?_
    refine lv_aload_n hx_ hb_ dL_law_1865 rfl (lv_at hl 1 rfl) ?_
    refine lv_iload hx_ hb_ dL_law_1866 (lv_at hl 5 rfl) ?_
    refine si_const S dL_law_1868 ?_
    refine si_add S dL_law_1869 ?_
    refine sc_sld S hV hX hzb (by omega) dL_law_1870 ?_
    have ga150 : ∀ x : Nat, m ≤ x → x < m + 16 → M1 x = M x := fun x u1 u2 => hf7 x (by omega) (by omega)
    have hc149 : M1 m = some (mO m th ch tn te sn nm wn) := (ga150 m (by omega) (by omega)).trans hm0
    have hc151 : M1 (m + 1) = some (sArr G 574 f) := (ga150 ((m + 1)) (by omega) (by omega)).trans hm1
    have hc152 : M1 (m + 9) = some (sArr G 62 A9) := (ga150 ((m + 9)) (by omega) (by omega)).trans hm9
    refine sk_Vi E hV (As := [.int (sI (lX xs (i + 1))), .int (sI (lX xs (i + 2))), .int (sI (lX xs (i + 3)))]) (rest := []) (kX11_stayAt l_ G b_ M1 N2 m th ch tn te sn nm wn f A9 (lX xs (i + 1)) (lX xs (i + 2)) (lX xs (i + 3)) hc149 hc151 hc152 (hok) (⟨lX_r xs _, lX_r xs _, lX_r xs _⟩)) (cwV 3 S.2.2.2.2 gL_law_X11_stayAt rfl rfl rfl (by decide +kernel) ⟨Nat.le_of_ble_eq_true rfl, Nat.le_of_ble_eq_true rfl⟩) (ci := 9) hc149 rfl rfl rfl hl.1 (Nat.le_of_ble_eq_true rfl) dL_law_1871 (c1 := cc_ + 10) (s1 := ss_ + 60) ⟨⟨rfl, rfl⟩, by omega, by omega⟩ (fun z156 M153 N154 H locs hp155 hV => ?_)
    obtain ⟨c9157, D9158, hN159, hc160, hf161, hq162⟩ := hp155
    rw [hN159] at hV
    rcases hq162 with ⟨c163, ez164, hc165⟩ | ⟨c166, ez167, hc168⟩ | ⟨c169, ez170, hc171⟩ | ⟨c172, ez173, hc174⟩ | ⟨c175, ez176, hc177⟩ | ⟨c178, ez179, hc180⟩
    · rw [ez164]
      exact (nx_stayAt_2_0 c15 c163).elim
    · rw [ez167]
      exact (nx_stayAt_2_1 c15 c166).elim
    · rw [ez170]
      refine lv_istore (lv' := [(6, .int (sI 0)), (5, .int (sI 2)), (0, .ref z), (1, .ref c), (2, .ref m), (3, .ref o), (4, .int (sI i))]) hx_ hb_ dL_law_1874 hl (by decide) rfl (fun ls hl => ?_)
      refine lv_aload_n hx_ hb_ dL_law_1876 rfl (lv_at hl 4 rfl) ?_
      refine sk_VP E hV (As := []) (rest := []) (kX11_thrown l_ G b_ M153 N2 m 2 ch tn te c9157 nm wn hc171) (cwV 0 S.2.2.2.2 gL_law_X11_thrown rfl rfl rfl (by decide +kernel) ⟨Nat.le_of_ble_eq_true rfl, Nat.le_of_ble_eq_true rfl⟩) (ci := 9) hc171 rfl rfl rfl hl.1 (Nat.le_of_ble_eq_true rfl) dL_law_1877 (c1 := cc_ + 10) (s1 := ss_ + 60) ⟨⟨rfl, rfl⟩, by omega, by omega⟩ (fun H locs hV => ?_)
      refine lv_iload hx_ hb_ dL_law_1880 (lv_at hl 1 rfl) ?_
      refine sb_eq (tgt := 1887) S dL_law_1882 (by decide) (by omega) (fun _ => ?_) (fun c181 => absurd c181 (by omega))
      refine lv_iload hx_ hb_ dL_law_1887 (lv_at hl 1 rfl) ?_
      refine sz_ne (tgt := 1904) S dL_law_1889 (by decide) (by omega) (fun _ => ?_) (fun c182 => absurd c182 (by omega))
      refine lv_goto (tgt := 2853) hx_ hb_ dL_law_1904 (by decide) ?_
      have gb184 : ∀ x : Nat, (x < m ∨ m + 16 ≤ x) → M153 x = M1 x := fun x u1 => hf161 x (by omega) (by omega)
      have hc183 : M153 c = some (xO c kn ch) := ((gb184 c (by omega)).trans (hf7 c (by omega) (by omega))).trans hc0
      have hc185 : stC G M153 (c + 1) f := hst.fr (fun x q8 q9 => (gb184 x (by omega)).trans (hf7 x (by omega) (by omega)))
      have hc186 : triC G M153 (c + 16) := htr.fr (fun x q8 q9 => (gb184 x (by omega)).trans (hf7 x (by omega) (by omega)))
      have hc187 : kpC G M153 (c + 31) kb kn ch fs := hkp.fr (fun x q8 => (gb184 x (by omega)).trans (hf7 x (by omega) (by omega)))
      have hc188 : M153 (c + 32) = some (sObj 7 [.ref (c + 33), .int (sI tn), .int (sI te)]) := ((gb184 ((c + 32)) (by omega)).trans (hf7 (c + 32) (by omega) (by omega))).trans ht0
      have hc189 : M153 (c + 33) = some (sArr G 300 t) := ((gb184 ((c + 33)) (by omega)).trans (hf7 (c + 33) (by omega) (by omega))).trans ht1
      have hc190 : catC G M153 (c + 34) wc T := hct.fr (fun x q8 q9 => (gb184 x (by omega)).trans (hf7 x (by omega) (by omega)))
      have hc191 : orfC G M153 (c + 38) := hft.fr (fun x q8 q9 => (gb184 x (by omega)).trans (hf7 x (by omega) (by omega)))
      have hc192 : layC G M153 (c + 48) := hly.fr (fun x q8 q9 => (gb184 x (by omega)).trans (hf7 x (by omega) (by omega)))
      have hc193 : knoC G M153 (c + 54) := hc6.fr (fun x q8 q9 => gb184 x (by omega))
      have hc194 : excC G M153 (c + 57) := hex.fr (fun x q8 q9 => (gb184 x (by omega)).trans (hf7 x (by omega) (by omega)))
      have hc195 : M153 (m + 1) = some (sArr G 574 f) := (hf161 (m + 1) (by omega) (by omega)).trans hc151
      have hc196 : svC G M153 (m + 2) ch fs := hsv.fr (fun x q8 q9 => (hf161 x (by omega) (by omega)).trans (ga150 x (by omega) (by omega)))
      have hc197 : M153 (m + 3) = some (sArr G 300 t) := ((hf161 (m + 3) (by omega) (by omega)).trans (ga150 ((m + 3)) (by omega) (by omega))).trans hm3
      have hc198 : M153 (m + 4) = some (sArr G 11 A4) := ((hf161 (m + 4) (by omega) (by omega)).trans (ga150 ((m + 4)) (by omega) (by omega))).trans hm4
      have hc199 : M153 (m + 5) = some (sArr G 1024 A5) := ((hf161 (m + 5) (by omega) (by omega)).trans (ga150 ((m + 5)) (by omega) (by omega))).trans hm5
      have hc200 : M153 (m + 6) = some (sArr G 1024 A6) := ((hf161 (m + 6) (by omega) (by omega)).trans (ga150 ((m + 6)) (by omega) (by omega))).trans hm6
      have hc201 : M153 (m + 7) = some (sArr G 10 A7) := ((hf161 (m + 7) (by omega) (by omega)).trans (ga150 ((m + 7)) (by omega) (by omega))).trans hm7
      have hc202 : M153 (m + 8) = some (sArr G 10 A8) := ((hf161 (m + 8) (by omega) (by omega)).trans (ga150 ((m + 8)) (by omega) (by omega))).trans hm8
      have hc203 : M153 (m + 10) = some (sArr G 8 A10) := ((hf161 (m + 10) (by omega) (by omega)).trans (ga150 ((m + 10)) (by omega) (by omega))).trans hm10
      have hc204 : M153 (m + 11) = some (sArr G 8 A11) := ((hf161 (m + 11) (by omega) (by omega)).trans (ga150 ((m + 11)) (by omega) (by omega))).trans hm11
      have hc205 : M153 (m + 12) = some (sArr G 60 A12) := ((hf161 (m + 12) (by omega) (by omega)).trans (ga150 ((m + 12)) (by omega) (by omega))).trans hm12
      have hc206 : M153 (m + 13) = some (sArr G 240 A13) := ((hf161 (m + 13) (by omega) (by omega)).trans (ga150 ((m + 13)) (by omega) (by omega))).trans hm13
      have hc207 : M153 (m + 14) = some (sArr G 574 A14) := ((hf161 (m + 14) (by omega) (by omega)).trans (ga150 ((m + 14)) (by omega) (by omega))).trans hm14
      have hc208 : M153 (m + 15) = some (sArr G 200 T2) := ((hf161 (m + 15) (by omega) (by omega)).trans (ga150 ((m + 15)) (by omega) (by omega))).trans hm15
      have hc209 : M153 o = some (sArL G 1 g0) := (gb184 o (by omega)).trans hc17
      exact W.widen (by omega) (by omega) (hk _ _ _ _ _ (by omega) ⟨_, _, _, _, _, _, _, _, _, _, _, _, _, _, _, _, _, _, _, _, _, _, _, _, _, _, hc183, hc185, hc186, hc187, hc188, hc189, hc190, hc191, hc192, hc193, hc194, hc171, hc195, hc196, hc197, hc198, hc199, hc200, hc201, hc202, hc160, hc203, hc204, hc205, hc206, hc207, hc208, hc209, lF_s hlF, htp, hwr⟩ hV (lv_sub hl [2, 3, 4, 5, 6] rfl))
    · rw [ez173]
      exact (nx_stayAt_2_3 c15 c172).elim
    · rw [ez176]
      exact (nx_stayAt_2_4 c15 c175).elim
    · rw [ez179]
      exact (nx_stayAt_2_5 c15 c178).elim
  · rw [ez19]
    refine lv_istore (lv' := [(5, .int (sI 0)), (0, .ref z), (1, .ref c), (2, .ref m), (3, .ref o), (4, .int (sI i))]) hx_ hb_ dL_law_1850 hl (by decide) rfl (fun ls hl => ?_)
    refine lv_aload_n hx_ hb_ dL_law_1852 rfl (lv_at hl 3 rfl) ?_
    refine lv_aload_n hx_ hb_ dL_law_1853 rfl (lv_at hl 1 rfl) ?_
    refine lv_iload hx_ hb_ dL_law_1854 (lv_at hl 5 rfl) ?_
    refine si_const S dL_law_1856 ?_
    refine si_add S dL_law_1857 ?_
    refine sc_sld S hV hX hzb (by omega) dL_law_1858 ?_
    refine lv_aload_n hx_ hb_ dL_law_1859 rfl (lv_at hl 1 rfl) ?_
    refine lv_iload hx_ hb_ dL_law_1860 (lv_at hl 5 rfl) ?_
    refine si_const S dL_law_1862 ?_
    refine si_add S dL_law_1863 ?_
    refine sc_sld S hV hX hzb (by omega) dL_law_1864 ?_
    refine lv_aload_n hx_ hb_ dL_law_1865 rfl (lv_at hl 1 rfl) ?_
    refine lv_iload hx_ hb_ dL_law_1866 (lv_at hl 5 rfl) ?_
    refine si_const S dL_law_1868 ?_
    refine si_add S dL_law_1869 ?_
    refine sc_sld S hV hX hzb (by omega) dL_law_1870 ?_
    have ga211 : ∀ x : Nat, m ≤ x → x < m + 16 → M1 x = M x := fun x u1 u2 => hf7 x (by omega) (by omega)
    have hc210 : M1 m = some (mO m th ch tn te sn nm wn) := (ga211 m (by omega) (by omega)).trans hm0
    have hc212 : M1 (m + 1) = some (sArr G 574 f) := (ga211 ((m + 1)) (by omega) (by omega)).trans hm1
    have hc213 : M1 (m + 9) = some (sArr G 62 A9) := (ga211 ((m + 9)) (by omega) (by omega)).trans hm9
    refine sk_Vi E hV (As := [.int (sI (lX xs (i + 1))), .int (sI (lX xs (i + 2))), .int (sI (lX xs (i + 3)))]) (rest := []) (kX11_stayAt l_ G b_ M1 N2 m th ch tn te sn nm wn f A9 (lX xs (i + 1)) (lX xs (i + 2)) (lX xs (i + 3)) hc210 hc212 hc213 (hok) (⟨lX_r xs _, lX_r xs _, lX_r xs _⟩)) (cwV 3 S.2.2.2.2 gL_law_X11_stayAt rfl rfl rfl (by decide +kernel) ⟨Nat.le_of_ble_eq_true rfl, Nat.le_of_ble_eq_true rfl⟩) (ci := 9) hc210 rfl rfl rfl hl.1 (Nat.le_of_ble_eq_true rfl) dL_law_1871 (c1 := cc_ + 10) (s1 := ss_ + 60) ⟨⟨rfl, rfl⟩, by omega, by omega⟩ (fun z217 M214 N215 H locs hp216 hV => ?_)
    obtain ⟨c9218, D9219, hN220, hc221, hf222, hq223⟩ := hp216
    rw [hN220] at hV
    rcases hq223 with ⟨c224, ez225, hc226⟩ | ⟨c227, ez228, hc229⟩ | ⟨c230, ez231, hc232⟩ | ⟨c233, ez234, hc235⟩ | ⟨c236, ez237, hc238⟩ | ⟨c239, ez240, hc241⟩
    · rw [ez225]
      exact (nx_stayAt_3_0 c18 c224).elim
    · rw [ez228]
      exact (nx_stayAt_3_1 c18 c227).elim
    · rw [ez231]
      exact (nx_stayAt_3_2 c18 c230).elim
    · rw [ez234]
      refine lv_istore (lv' := [(6, .int (sI (hnd f (lX xs (i + 1)) (segD (fun x => hnd f (lX xs (i + 1)) x (f 571)) (lX xs (i + 2))) (f 571)))), (5, .int (sI 0)), (0, .ref z), (1, .ref c), (2, .ref m), (3, .ref o), (4, .int (sI i))]) hx_ hb_ dL_law_1874 hl (by decide) rfl (fun ls hl => ?_)
      refine lv_aload_n hx_ hb_ dL_law_1876 rfl (lv_at hl 4 rfl) ?_
      refine sk_VP E hV (As := []) (rest := []) (kX11_thrown l_ G b_ M214 N2 m 0 ch tn te c9218 nm wn hc235) (cwV 0 S.2.2.2.2 gL_law_X11_thrown rfl rfl rfl (by decide +kernel) ⟨Nat.le_of_ble_eq_true rfl, Nat.le_of_ble_eq_true rfl⟩) (ci := 9) hc235 rfl rfl rfl hl.1 (Nat.le_of_ble_eq_true rfl) dL_law_1877 (c1 := cc_ + 10) (s1 := ss_ + 60) ⟨⟨rfl, rfl⟩, by omega, by omega⟩ (fun H locs hV => ?_)
      refine lv_iload hx_ hb_ dL_law_1880 (lv_at hl 1 rfl) ?_
      refine sb_eq (tgt := 1887) S dL_law_1882 (by decide) (by omega) (fun _ => ?_) (fun c242 => absurd c242 (by omega))
      refine lv_iload hx_ hb_ dL_law_1887 (lv_at hl 1 rfl) ?_
      refine sz_ne (tgt := 1904) S dL_law_1889 (by decide) (by omega) (fun c243 => absurd c243 (by omega)) (fun _ => ?_)
      refine lv_aload_n hx_ hb_ dL_law_1892 rfl (lv_at hl 5 rfl) ?_
      refine si_const S dL_law_1893 ?_
      have gb245 : ∀ x : Nat, (x < m ∨ m + 16 ≤ x) → M214 x = M1 x := fun x u1 => hf222 x (by omega) (by omega)
      have hc244 : M214 o = some (sArL G 1 (iup g0 0 (sW (hnd f (lX xs (i + 1)) (segD (fun x => hnd f (lX xs (i + 1)) x (f 571)) (lX xs (i + 2))) (f 571))))) := (gb245 o (by omega)).trans hc20
      refine sc_lald S hK hV hc244 (by omega) dL_law_1894 ?_
      rw [show (iup g0 0 (sW (hnd f (lX xs (i + 1)) (segD (fun x => hnd f (lX xs (i + 1)) x (f 571)) (lX xs (i + 2))) (f 571)))) 0 = sW (hnd f (lX xs (i + 1)) (segD (fun x => hnd f (lX xs (i + 1)) x (f 571)) (lX xs (i + 2))) (f 571)) from if_pos rfl]
      refine lv_iload hx_ hb_ dL_law_1895 (lv_at hl 0 rfl) ?_
      refine sl_i2w S dL_law_1897 ?_
      refine sl_cmp0 S (rfl) dL_law_1898 ?_
      refine sz_eq (tgt := 1904) S dL_law_1899 (by decide) (by omega) (fun _ => ?_) (fun c246 => absurd c246 (by omega))
      refine lv_goto (tgt := 2853) hx_ hb_ dL_law_1904 (by decide) ?_
      have hc247 : M214 c = some (xO c kn ch) := ((gb245 c (by omega)).trans (hf7 c (by omega) (by omega))).trans hc0
      have hc248 : stC G M214 (c + 1) f := hst.fr (fun x q8 q9 => (gb245 x (by omega)).trans (hf7 x (by omega) (by omega)))
      have hc249 : triC G M214 (c + 16) := htr.fr (fun x q8 q9 => (gb245 x (by omega)).trans (hf7 x (by omega) (by omega)))
      have hc250 : kpC G M214 (c + 31) kb kn ch fs := hkp.fr (fun x q8 => (gb245 x (by omega)).trans (hf7 x (by omega) (by omega)))
      have hc251 : M214 (c + 32) = some (sObj 7 [.ref (c + 33), .int (sI tn), .int (sI te)]) := ((gb245 ((c + 32)) (by omega)).trans (hf7 (c + 32) (by omega) (by omega))).trans ht0
      have hc252 : M214 (c + 33) = some (sArr G 300 t) := ((gb245 ((c + 33)) (by omega)).trans (hf7 (c + 33) (by omega) (by omega))).trans ht1
      have hc253 : catC G M214 (c + 34) wc T := hct.fr (fun x q8 q9 => (gb245 x (by omega)).trans (hf7 x (by omega) (by omega)))
      have hc254 : orfC G M214 (c + 38) := hft.fr (fun x q8 q9 => (gb245 x (by omega)).trans (hf7 x (by omega) (by omega)))
      have hc255 : layC G M214 (c + 48) := hly.fr (fun x q8 q9 => (gb245 x (by omega)).trans (hf7 x (by omega) (by omega)))
      have hc256 : knoC G M214 (c + 54) := hc6.fr (fun x q8 q9 => gb245 x (by omega))
      have hc257 : excC G M214 (c + 57) := hex.fr (fun x q8 q9 => (gb245 x (by omega)).trans (hf7 x (by omega) (by omega)))
      have hc258 : M214 (m + 1) = some (sArr G 574 f) := (hf222 (m + 1) (by omega) (by omega)).trans hc212
      have hc259 : svC G M214 (m + 2) ch fs := hsv.fr (fun x q8 q9 => (hf222 x (by omega) (by omega)).trans (ga211 x (by omega) (by omega)))
      have hc260 : M214 (m + 3) = some (sArr G 300 t) := ((hf222 (m + 3) (by omega) (by omega)).trans (ga211 ((m + 3)) (by omega) (by omega))).trans hm3
      have hc261 : M214 (m + 4) = some (sArr G 11 A4) := ((hf222 (m + 4) (by omega) (by omega)).trans (ga211 ((m + 4)) (by omega) (by omega))).trans hm4
      have hc262 : M214 (m + 5) = some (sArr G 1024 A5) := ((hf222 (m + 5) (by omega) (by omega)).trans (ga211 ((m + 5)) (by omega) (by omega))).trans hm5
      have hc263 : M214 (m + 6) = some (sArr G 1024 A6) := ((hf222 (m + 6) (by omega) (by omega)).trans (ga211 ((m + 6)) (by omega) (by omega))).trans hm6
      have hc264 : M214 (m + 7) = some (sArr G 10 A7) := ((hf222 (m + 7) (by omega) (by omega)).trans (ga211 ((m + 7)) (by omega) (by omega))).trans hm7
      have hc265 : M214 (m + 8) = some (sArr G 10 A8) := ((hf222 (m + 8) (by omega) (by omega)).trans (ga211 ((m + 8)) (by omega) (by omega))).trans hm8
      have hc266 : M214 (m + 10) = some (sArr G 8 A10) := ((hf222 (m + 10) (by omega) (by omega)).trans (ga211 ((m + 10)) (by omega) (by omega))).trans hm10
      have hc267 : M214 (m + 11) = some (sArr G 8 A11) := ((hf222 (m + 11) (by omega) (by omega)).trans (ga211 ((m + 11)) (by omega) (by omega))).trans hm11
      have hc268 : M214 (m + 12) = some (sArr G 60 A12) := ((hf222 (m + 12) (by omega) (by omega)).trans (ga211 ((m + 12)) (by omega) (by omega))).trans hm12
      have hc269 : M214 (m + 13) = some (sArr G 240 A13) := ((hf222 (m + 13) (by omega) (by omega)).trans (ga211 ((m + 13)) (by omega) (by omega))).trans hm13
      have hc270 : M214 (m + 14) = some (sArr G 574 A14) := ((hf222 (m + 14) (by omega) (by omega)).trans (ga211 ((m + 14)) (by omega) (by omega))).trans hm14
      have hc271 : M214 (m + 15) = some (sArr G 200 T2) := ((hf222 (m + 15) (by omega) (by omega)).trans (ga211 ((m + 15)) (by omega) (by omega))).trans hm15
      exact W.widen (by omega) (by omega) (hk _ _ _ _ _ (by omega) ⟨_, _, _, _, _, _, _, _, _, _, _, _, _, _, _, _, _, _, _, _, _, _, _, _, _, _, hc247, hc248, hc249, hc250, hc251, hc252, hc253, hc254, hc255, hc256, hc257, hc235, hc258, hc259, hc260, hc261, hc262, hc263, hc264, hc265, hc221, hc266, hc267, hc268, hc269, hc270, hc271, hc244, lF_s hlF, htp, hwr⟩ hV (lv_sub hl [2, 3, 4, 5, 6] rfl))
    · rw [ez237]
      exact (nx_stayAt_3_4 c18 c236).elim
    · rw [ez240]
      exact (nx_stayAt_3_5 c18 c239).elim
  · rw [ez22]
    refine lv_istore (lv' := [(5, .int (sI 0)), (0, .ref z), (1, .ref c), (2, .ref m), (3, .ref o), (4, .int (sI i))]) hx_ hb_ dL_law_1850 hl (by decide) rfl (fun ls hl => ?_)
    refine lv_aload_n hx_ hb_ dL_law_1852 rfl (lv_at hl 3 rfl) ?_
    refine lv_aload_n hx_ hb_ dL_law_1853 rfl (lv_at hl 1 rfl) ?_
    refine lv_iload hx_ hb_ dL_law_1854 (lv_at hl 5 rfl) ?_
    refine si_const S dL_law_1856 ?_
    refine si_add S dL_law_1857 ?_
    refine sc_sld S hV hX hzb (by omega) dL_law_1858 ?_
    refine lv_aload_n hx_ hb_ dL_law_1859 rfl (lv_at hl 1 rfl) ?_
    refine lv_iload hx_ hb_ dL_law_1860 (lv_at hl 5 rfl) ?_
    refine si_const S dL_law_1862 ?_
    refine si_add S dL_law_1863 ?_
    refine sc_sld S hV hX hzb (by omega) dL_law_1864 ?_
    refine lv_aload_n hx_ hb_ dL_law_1865 rfl (lv_at hl 1 rfl) ?_
    refine lv_iload hx_ hb_ dL_law_1866 (lv_at hl 5 rfl) ?_
    refine si_const S dL_law_1868 ?_
    refine si_add S dL_law_1869 ?_
    refine sc_sld S hV hX hzb (by omega) dL_law_1870 ?_
    have ga273 : ∀ x : Nat, m ≤ x → x < m + 16 → M1 x = M x := fun x u1 u2 => hf7 x (by omega) (by omega)
    have hc272 : M1 m = some (mO m th ch tn te sn nm wn) := (ga273 m (by omega) (by omega)).trans hm0
    have hc274 : M1 (m + 1) = some (sArr G 574 f) := (ga273 ((m + 1)) (by omega) (by omega)).trans hm1
    have hc275 : M1 (m + 9) = some (sArr G 62 A9) := (ga273 ((m + 9)) (by omega) (by omega)).trans hm9
    refine sk_Vi E hV (As := [.int (sI (lX xs (i + 1))), .int (sI (lX xs (i + 2))), .int (sI (lX xs (i + 3)))]) (rest := []) (kX11_stayAt l_ G b_ M1 N2 m th ch tn te sn nm wn f A9 (lX xs (i + 1)) (lX xs (i + 2)) (lX xs (i + 3)) hc272 hc274 hc275 (hok) (⟨lX_r xs _, lX_r xs _, lX_r xs _⟩)) (cwV 3 S.2.2.2.2 gL_law_X11_stayAt rfl rfl rfl (by decide +kernel) ⟨Nat.le_of_ble_eq_true rfl, Nat.le_of_ble_eq_true rfl⟩) (ci := 9) hc272 rfl rfl rfl hl.1 (Nat.le_of_ble_eq_true rfl) dL_law_1871 (c1 := cc_ + 10) (s1 := ss_ + 60) ⟨⟨rfl, rfl⟩, by omega, by omega⟩ (fun z279 M276 N277 H locs hp278 hV => ?_)
    obtain ⟨c9280, D9281, hN282, hc283, hf284, hq285⟩ := hp278
    rw [hN282] at hV
    rcases hq285 with ⟨c286, ez287, hc288⟩ | ⟨c289, ez290, hc291⟩ | ⟨c292, ez293, hc294⟩ | ⟨c295, ez296, hc297⟩ | ⟨c298, ez299, hc300⟩ | ⟨c301, ez302, hc303⟩
    · rw [ez287]
      exact (nx_stayAt_4_0 c21 c286).elim
    · rw [ez290]
      exact (nx_stayAt_4_1 c21 c289).elim
    · rw [ez293]
      exact (nx_stayAt_4_2 c21 c292).elim
    · rw [ez296]
      exact (nx_stayAt_4_3 c21 c295).elim
    · rw [ez299]
      refine lv_istore (lv' := [(6, .int (sI (if (lX xs (i + 2)) = 0 then -1 else dat (segD (fun x => hnd f (lX xs (i + 1)) x (f 571)) (lX xs (i + 2)))))), (5, .int (sI 0)), (0, .ref z), (1, .ref c), (2, .ref m), (3, .ref o), (4, .int (sI i))]) hx_ hb_ dL_law_1874 hl (by decide) rfl (fun ls hl => ?_)
      refine lv_aload_n hx_ hb_ dL_law_1876 rfl (lv_at hl 4 rfl) ?_
      refine sk_VP E hV (As := []) (rest := []) (kX11_thrown l_ G b_ M276 N2 m 0 ch tn te c9280 nm wn hc300) (cwV 0 S.2.2.2.2 gL_law_X11_thrown rfl rfl rfl (by decide +kernel) ⟨Nat.le_of_ble_eq_true rfl, Nat.le_of_ble_eq_true rfl⟩) (ci := 9) hc300 rfl rfl rfl hl.1 (Nat.le_of_ble_eq_true rfl) dL_law_1877 (c1 := cc_ + 10) (s1 := ss_ + 60) ⟨⟨rfl, rfl⟩, by omega, by omega⟩ (fun H locs hV => ?_)
      refine lv_iload hx_ hb_ dL_law_1880 (lv_at hl 1 rfl) ?_
      refine sb_eq (tgt := 1887) S dL_law_1882 (by decide) (by omega) (fun _ => ?_) (fun c304 => absurd c304 (by omega))
      refine lv_iload hx_ hb_ dL_law_1887 (lv_at hl 1 rfl) ?_
      refine sz_ne (tgt := 1904) S dL_law_1889 (by decide) (by omega) (fun c305 => absurd c305 (by omega)) (fun _ => ?_)
      refine lv_aload_n hx_ hb_ dL_law_1892 rfl (lv_at hl 5 rfl) ?_
      refine si_const S dL_law_1893 ?_
      have gb307 : ∀ x : Nat, (x < m ∨ m + 16 ≤ x) → M276 x = M1 x := fun x u1 => hf284 x (by omega) (by omega)
      have hc306 : M276 o = some (sArL G 1 (iup g0 0 (sW (if (lX xs (i + 2)) = 0 then -1 else dat (segD (fun x => hnd f (lX xs (i + 1)) x (f 571)) (lX xs (i + 2))))))) := (gb307 o (by omega)).trans hc23
      refine sc_lald S hK hV hc306 (by omega) dL_law_1894 ?_
      rw [show (iup g0 0 (sW (if (lX xs (i + 2)) = 0 then -1 else dat (segD (fun x => hnd f (lX xs (i + 1)) x (f 571)) (lX xs (i + 2)))))) 0 = sW (if (lX xs (i + 2)) = 0 then -1 else dat (segD (fun x => hnd f (lX xs (i + 1)) x (f 571)) (lX xs (i + 2)))) from if_pos rfl]
      refine lv_iload hx_ hb_ dL_law_1895 (lv_at hl 0 rfl) ?_
      refine sl_i2w S dL_law_1897 ?_
      refine sl_cmp0 S (rfl) dL_law_1898 ?_
      refine sz_eq (tgt := 1904) S dL_law_1899 (by decide) (by omega) (fun _ => ?_) (fun c308 => absurd c308 (by omega))
      refine lv_goto (tgt := 2853) hx_ hb_ dL_law_1904 (by decide) ?_
      have hc309 : M276 c = some (xO c kn ch) := ((gb307 c (by omega)).trans (hf7 c (by omega) (by omega))).trans hc0
      have hc310 : stC G M276 (c + 1) f := hst.fr (fun x q8 q9 => (gb307 x (by omega)).trans (hf7 x (by omega) (by omega)))
      have hc311 : triC G M276 (c + 16) := htr.fr (fun x q8 q9 => (gb307 x (by omega)).trans (hf7 x (by omega) (by omega)))
      have hc312 : kpC G M276 (c + 31) kb kn ch fs := hkp.fr (fun x q8 => (gb307 x (by omega)).trans (hf7 x (by omega) (by omega)))
      have hc313 : M276 (c + 32) = some (sObj 7 [.ref (c + 33), .int (sI tn), .int (sI te)]) := ((gb307 ((c + 32)) (by omega)).trans (hf7 (c + 32) (by omega) (by omega))).trans ht0
      have hc314 : M276 (c + 33) = some (sArr G 300 t) := ((gb307 ((c + 33)) (by omega)).trans (hf7 (c + 33) (by omega) (by omega))).trans ht1
      have hc315 : catC G M276 (c + 34) wc T := hct.fr (fun x q8 q9 => (gb307 x (by omega)).trans (hf7 x (by omega) (by omega)))
      have hc316 : orfC G M276 (c + 38) := hft.fr (fun x q8 q9 => (gb307 x (by omega)).trans (hf7 x (by omega) (by omega)))
      have hc317 : layC G M276 (c + 48) := hly.fr (fun x q8 q9 => (gb307 x (by omega)).trans (hf7 x (by omega) (by omega)))
      have hc318 : knoC G M276 (c + 54) := hc6.fr (fun x q8 q9 => gb307 x (by omega))
      have hc319 : excC G M276 (c + 57) := hex.fr (fun x q8 q9 => (gb307 x (by omega)).trans (hf7 x (by omega) (by omega)))
      have hc320 : M276 (m + 1) = some (sArr G 574 f) := (hf284 (m + 1) (by omega) (by omega)).trans hc274
      have hc321 : svC G M276 (m + 2) ch fs := hsv.fr (fun x q8 q9 => (hf284 x (by omega) (by omega)).trans (ga273 x (by omega) (by omega)))
      have hc322 : M276 (m + 3) = some (sArr G 300 t) := ((hf284 (m + 3) (by omega) (by omega)).trans (ga273 ((m + 3)) (by omega) (by omega))).trans hm3
      have hc323 : M276 (m + 4) = some (sArr G 11 A4) := ((hf284 (m + 4) (by omega) (by omega)).trans (ga273 ((m + 4)) (by omega) (by omega))).trans hm4
      have hc324 : M276 (m + 5) = some (sArr G 1024 A5) := ((hf284 (m + 5) (by omega) (by omega)).trans (ga273 ((m + 5)) (by omega) (by omega))).trans hm5
      have hc325 : M276 (m + 6) = some (sArr G 1024 A6) := ((hf284 (m + 6) (by omega) (by omega)).trans (ga273 ((m + 6)) (by omega) (by omega))).trans hm6
      have hc326 : M276 (m + 7) = some (sArr G 10 A7) := ((hf284 (m + 7) (by omega) (by omega)).trans (ga273 ((m + 7)) (by omega) (by omega))).trans hm7
      have hc327 : M276 (m + 8) = some (sArr G 10 A8) := ((hf284 (m + 8) (by omega) (by omega)).trans (ga273 ((m + 8)) (by omega) (by omega))).trans hm8
      have hc328 : M276 (m + 10) = some (sArr G 8 A10) := ((hf284 (m + 10) (by omega) (by omega)).trans (ga273 ((m + 10)) (by omega) (by omega))).trans hm10
      have hc329 : M276 (m + 11) = some (sArr G 8 A11) := ((hf284 (m + 11) (by omega) (by omega)).trans (ga273 ((m + 11)) (by omega) (by omega))).trans hm11
      have hc330 : M276 (m + 12) = some (sArr G 60 A12) := ((hf284 (m + 12) (by omega) (by omega)).trans (ga273 ((m + 12)) (by omega) (by omega))).trans hm12
      have hc331 : M276 (m + 13) = some (sArr G 240 A13) := ((hf284 (m + 13) (by omega) (by omega)).trans (ga273 ((m + 13)) (by omega) (by omega))).trans hm13
      have hc332 : M276 (m + 14) = some (sArr G 574 A14) := ((hf284 (m + 14) (by omega) (by omega)).trans (ga273 ((m + 14)) (by omega) (by omega))).trans hm14
      have hc333 : M276 (m + 15) = some (sArr G 200 T2) := ((hf284 (m + 15) (by omega) (by omega)).trans (ga273 ((m + 15)) (by omega) (by omega))).trans hm15
      exact W.widen (by omega) (by omega) (hk _ _ _ _ _ (by omega) ⟨_, _, _, _, _, _, _, _, _, _, _, _, _, _, _, _, _, _, _, _, _, _, _, _, _, _, hc309, hc310, hc311, hc312, hc313, hc314, hc315, hc316, hc317, hc318, hc319, hc300, hc320, hc321, hc322, hc323, hc324, hc325, hc326, hc327, hc283, hc328, hc329, hc330, hc331, hc332, hc333, hc306, lF_s hlF, htp, hwr⟩ hV (lv_sub hl [2, 3, 4, 5, 6] rfl))
    · rw [ez302]
      exact (nx_stayAt_4_5 c21 c301).elim
  · rw [ez25]
    refine lv_istore (lv' := [(5, .int (sI 0)), (0, .ref z), (1, .ref c), (2, .ref m), (3, .ref o), (4, .int (sI i))]) hx_ hb_ dL_law_1850 hl (by decide) rfl (fun ls hl => ?_)
    refine lv_aload_n hx_ hb_ dL_law_1852 rfl (lv_at hl 3 rfl) ?_
    refine lv_aload_n hx_ hb_ dL_law_1853 rfl (lv_at hl 1 rfl) ?_
    refine lv_iload hx_ hb_ dL_law_1854 (lv_at hl 5 rfl) ?_
    refine si_const S dL_law_1856 ?_
    refine si_add S dL_law_1857 ?_
    refine sc_sld S hV hX hzb (by omega) dL_law_1858 ?_
    refine lv_aload_n hx_ hb_ dL_law_1859 rfl (lv_at hl 1 rfl) ?_
    refine lv_iload hx_ hb_ dL_law_1860 (lv_at hl 5 rfl) ?_
    refine si_const S dL_law_1862 ?_
    refine si_add S dL_law_1863 ?_
    refine sc_sld S hV hX hzb (by omega) dL_law_1864 ?_
    refine lv_aload_n hx_ hb_ dL_law_1865 rfl (lv_at hl 1 rfl) ?_
    refine lv_iload hx_ hb_ dL_law_1866 (lv_at hl 5 rfl) ?_
    refine si_const S dL_law_1868 ?_
    refine si_add S dL_law_1869 ?_
    refine sc_sld S hV hX hzb (by omega) dL_law_1870 ?_
    have ga335 : ∀ x : Nat, m ≤ x → x < m + 16 → M1 x = M x := fun x u1 u2 => hf7 x (by omega) (by omega)
    have hc334 : M1 m = some (mO m th ch tn te sn nm wn) := (ga335 m (by omega) (by omega)).trans hm0
    have hc336 : M1 (m + 1) = some (sArr G 574 f) := (ga335 ((m + 1)) (by omega) (by omega)).trans hm1
    have hc337 : M1 (m + 9) = some (sArr G 62 A9) := (ga335 ((m + 9)) (by omega) (by omega)).trans hm9
    refine sk_Vi E hV (As := [.int (sI (lX xs (i + 1))), .int (sI (lX xs (i + 2))), .int (sI (lX xs (i + 3)))]) (rest := []) (kX11_stayAt l_ G b_ M1 N2 m th ch tn te sn nm wn f A9 (lX xs (i + 1)) (lX xs (i + 2)) (lX xs (i + 3)) hc334 hc336 hc337 (hok) (⟨lX_r xs _, lX_r xs _, lX_r xs _⟩)) (cwV 3 S.2.2.2.2 gL_law_X11_stayAt rfl rfl rfl (by decide +kernel) ⟨Nat.le_of_ble_eq_true rfl, Nat.le_of_ble_eq_true rfl⟩) (ci := 9) hc334 rfl rfl rfl hl.1 (Nat.le_of_ble_eq_true rfl) dL_law_1871 (c1 := cc_ + 10) (s1 := ss_ + 60) ⟨⟨rfl, rfl⟩, by omega, by omega⟩ (fun z341 M338 N339 H locs hp340 hV => ?_)
    obtain ⟨c9342, D9343, hN344, hc345, hf346, hq347⟩ := hp340
    rw [hN344] at hV
    rcases hq347 with ⟨c348, ez349, hc350⟩ | ⟨c351, ez352, hc353⟩ | ⟨c354, ez355, hc356⟩ | ⟨c357, ez358, hc359⟩ | ⟨c360, ez361, hc362⟩ | ⟨c363, ez364, hc365⟩
    · rw [ez349]
      exact (nx_stayAt_5_0 c24 c348).elim
    · rw [ez352]
      exact (nx_stayAt_5_1 c24 c351).elim
    · rw [ez355]
      exact (nx_stayAt_5_2 c24 c354).elim
    · rw [ez358]
      exact (nx_stayAt_5_3 c24 c357).elim
    · rw [ez361]
      exact (nx_stayAt_5_4 c24 c360).elim
    · rw [ez364]
      refine lv_istore (lv' := [(6, .int (sI (if (lX xs (i + 2)) = segC (fun x => hnd f (lX xs (i + 1)) x (f 571)) - 1 then -1 else dat (segD (fun x => hnd f (lX xs (i + 1)) x (f 571)) ((lX xs (i + 2)) + 1) - 1)))), (5, .int (sI 0)), (0, .ref z), (1, .ref c), (2, .ref m), (3, .ref o), (4, .int (sI i))]) hx_ hb_ dL_law_1874 hl (by decide) rfl (fun ls hl => ?_)
      refine lv_aload_n hx_ hb_ dL_law_1876 rfl (lv_at hl 4 rfl) ?_
      refine sk_VP E hV (As := []) (rest := []) (kX11_thrown l_ G b_ M338 N2 m 0 ch tn te c9342 nm wn hc365) (cwV 0 S.2.2.2.2 gL_law_X11_thrown rfl rfl rfl (by decide +kernel) ⟨Nat.le_of_ble_eq_true rfl, Nat.le_of_ble_eq_true rfl⟩) (ci := 9) hc365 rfl rfl rfl hl.1 (Nat.le_of_ble_eq_true rfl) dL_law_1877 (c1 := cc_ + 10) (s1 := ss_ + 60) ⟨⟨rfl, rfl⟩, by omega, by omega⟩ (fun H locs hV => ?_)
      refine lv_iload hx_ hb_ dL_law_1880 (lv_at hl 1 rfl) ?_
      refine sb_eq (tgt := 1887) S dL_law_1882 (by decide) (by omega) (fun _ => ?_) (fun c366 => absurd c366 (by omega))
      refine lv_iload hx_ hb_ dL_law_1887 (lv_at hl 1 rfl) ?_
      refine sz_ne (tgt := 1904) S dL_law_1889 (by decide) (by omega) (fun c367 => absurd c367 (by omega)) (fun _ => ?_)
      refine lv_aload_n hx_ hb_ dL_law_1892 rfl (lv_at hl 5 rfl) ?_
      refine si_const S dL_law_1893 ?_
      have gb369 : ∀ x : Nat, (x < m ∨ m + 16 ≤ x) → M338 x = M1 x := fun x u1 => hf346 x (by omega) (by omega)
      have hc368 : M338 o = some (sArL G 1 (iup g0 0 (sW (if (lX xs (i + 2)) = segC (fun x => hnd f (lX xs (i + 1)) x (f 571)) - 1 then -1 else dat (segD (fun x => hnd f (lX xs (i + 1)) x (f 571)) ((lX xs (i + 2)) + 1) - 1))))) := (gb369 o (by omega)).trans hc26
      refine sc_lald S hK hV hc368 (by omega) dL_law_1894 ?_
      rw [show (iup g0 0 (sW (if (lX xs (i + 2)) = segC (fun x => hnd f (lX xs (i + 1)) x (f 571)) - 1 then -1 else dat (segD (fun x => hnd f (lX xs (i + 1)) x (f 571)) ((lX xs (i + 2)) + 1) - 1)))) 0 = sW (if (lX xs (i + 2)) = segC (fun x => hnd f (lX xs (i + 1)) x (f 571)) - 1 then -1 else dat (segD (fun x => hnd f (lX xs (i + 1)) x (f 571)) ((lX xs (i + 2)) + 1) - 1)) from if_pos rfl]
      refine lv_iload hx_ hb_ dL_law_1895 (lv_at hl 0 rfl) ?_
      refine sl_i2w S dL_law_1897 ?_
      refine sl_cmp0 S (rfl) dL_law_1898 ?_
      refine sz_eq (tgt := 1904) S dL_law_1899 (by decide) (by omega) (fun _ => ?_) (fun c370 => absurd c370 (by omega))
      refine lv_goto (tgt := 2853) hx_ hb_ dL_law_1904 (by decide) ?_
      have hc371 : M338 c = some (xO c kn ch) := ((gb369 c (by omega)).trans (hf7 c (by omega) (by omega))).trans hc0
      have hc372 : stC G M338 (c + 1) f := hst.fr (fun x q8 q9 => (gb369 x (by omega)).trans (hf7 x (by omega) (by omega)))
      have hc373 : triC G M338 (c + 16) := htr.fr (fun x q8 q9 => (gb369 x (by omega)).trans (hf7 x (by omega) (by omega)))
      have hc374 : kpC G M338 (c + 31) kb kn ch fs := hkp.fr (fun x q8 => (gb369 x (by omega)).trans (hf7 x (by omega) (by omega)))
      have hc375 : M338 (c + 32) = some (sObj 7 [.ref (c + 33), .int (sI tn), .int (sI te)]) := ((gb369 ((c + 32)) (by omega)).trans (hf7 (c + 32) (by omega) (by omega))).trans ht0
      have hc376 : M338 (c + 33) = some (sArr G 300 t) := ((gb369 ((c + 33)) (by omega)).trans (hf7 (c + 33) (by omega) (by omega))).trans ht1
      have hc377 : catC G M338 (c + 34) wc T := hct.fr (fun x q8 q9 => (gb369 x (by omega)).trans (hf7 x (by omega) (by omega)))
      have hc378 : orfC G M338 (c + 38) := hft.fr (fun x q8 q9 => (gb369 x (by omega)).trans (hf7 x (by omega) (by omega)))
      have hc379 : layC G M338 (c + 48) := hly.fr (fun x q8 q9 => (gb369 x (by omega)).trans (hf7 x (by omega) (by omega)))
      have hc380 : knoC G M338 (c + 54) := hc6.fr (fun x q8 q9 => gb369 x (by omega))
      have hc381 : excC G M338 (c + 57) := hex.fr (fun x q8 q9 => (gb369 x (by omega)).trans (hf7 x (by omega) (by omega)))
      have hc382 : M338 (m + 1) = some (sArr G 574 f) := (hf346 (m + 1) (by omega) (by omega)).trans hc336
      have hc383 : svC G M338 (m + 2) ch fs := hsv.fr (fun x q8 q9 => (hf346 x (by omega) (by omega)).trans (ga335 x (by omega) (by omega)))
      have hc384 : M338 (m + 3) = some (sArr G 300 t) := ((hf346 (m + 3) (by omega) (by omega)).trans (ga335 ((m + 3)) (by omega) (by omega))).trans hm3
      have hc385 : M338 (m + 4) = some (sArr G 11 A4) := ((hf346 (m + 4) (by omega) (by omega)).trans (ga335 ((m + 4)) (by omega) (by omega))).trans hm4
      have hc386 : M338 (m + 5) = some (sArr G 1024 A5) := ((hf346 (m + 5) (by omega) (by omega)).trans (ga335 ((m + 5)) (by omega) (by omega))).trans hm5
      have hc387 : M338 (m + 6) = some (sArr G 1024 A6) := ((hf346 (m + 6) (by omega) (by omega)).trans (ga335 ((m + 6)) (by omega) (by omega))).trans hm6
      have hc388 : M338 (m + 7) = some (sArr G 10 A7) := ((hf346 (m + 7) (by omega) (by omega)).trans (ga335 ((m + 7)) (by omega) (by omega))).trans hm7
      have hc389 : M338 (m + 8) = some (sArr G 10 A8) := ((hf346 (m + 8) (by omega) (by omega)).trans (ga335 ((m + 8)) (by omega) (by omega))).trans hm8
      have hc390 : M338 (m + 10) = some (sArr G 8 A10) := ((hf346 (m + 10) (by omega) (by omega)).trans (ga335 ((m + 10)) (by omega) (by omega))).trans hm10
      have hc391 : M338 (m + 11) = some (sArr G 8 A11) := ((hf346 (m + 11) (by omega) (by omega)).trans (ga335 ((m + 11)) (by omega) (by omega))).trans hm11
      have hc392 : M338 (m + 12) = some (sArr G 60 A12) := ((hf346 (m + 12) (by omega) (by omega)).trans (ga335 ((m + 12)) (by omega) (by omega))).trans hm12
      have hc393 : M338 (m + 13) = some (sArr G 240 A13) := ((hf346 (m + 13) (by omega) (by omega)).trans (ga335 ((m + 13)) (by omega) (by omega))).trans hm13
      have hc394 : M338 (m + 14) = some (sArr G 574 A14) := ((hf346 (m + 14) (by omega) (by omega)).trans (ga335 ((m + 14)) (by omega) (by omega))).trans hm14
      have hc395 : M338 (m + 15) = some (sArr G 200 T2) := ((hf346 (m + 15) (by omega) (by omega)).trans (ga335 ((m + 15)) (by omega) (by omega))).trans hm15
      exact W.widen (by omega) (by omega) (hk _ _ _ _ _ (by omega) ⟨_, _, _, _, _, _, _, _, _, _, _, _, _, _, _, _, _, _, _, _, _, _, _, _, _, _, hc371, hc372, hc373, hc374, hc375, hc376, hc377, hc378, hc379, hc380, hc381, hc365, hc382, hc383, hc384, hc385, hc386, hc387, hc388, hc389, hc345, hc390, hc391, hc392, hc393, hc394, hc395, hc368, lF_s hlF, htp, hwr⟩ hV (lv_sub hl [2, 3, 4, 5, 6] rfl))

theorem nx_away_0_1 {s : Int} {f : sF} {a : Int} {b : Int} (h1 : ¬ (0 ≤ s ∧ s < f 568)) (h2 : (0 ≤ s ∧ s < f 568) ∧ ¬ (isDt a ∧ isDt b ∧ a ≤ b)) : False := by
  first
  | omega
  | (simp_all; done)
  | (simp_all; omega)
theorem nx_away_0_2 {s : Int} {f : sF} {a : Int} {b : Int} (h1 : ¬ (0 ≤ s ∧ s < f 568)) (h2 : (0 ≤ s ∧ s < f 568) ∧ isDt a ∧ isDt b ∧ a ≤ b) : False := by
  first
  | omega
  | (simp_all; done)
  | (simp_all; omega)
theorem nx_away_1_0 {s : Int} {f : sF} {a : Int} {b : Int} (h1 : (0 ≤ s ∧ s < f 568) ∧ ¬ (isDt a ∧ isDt b ∧ a ≤ b)) (h2 : ¬ (0 ≤ s ∧ s < f 568)) : False := by
  first
  | omega
  | (simp_all; done)
  | (simp_all; omega)
theorem nx_away_1_2 {s : Int} {f : sF} {a : Int} {b : Int} (h1 : (0 ≤ s ∧ s < f 568) ∧ ¬ (isDt a ∧ isDt b ∧ a ≤ b)) (h2 : (0 ≤ s ∧ s < f 568) ∧ isDt a ∧ isDt b ∧ a ≤ b) : False := by
  first
  | omega
  | (simp_all; done)
  | (simp_all; omega)
theorem nx_away_2_0 {s : Int} {f : sF} {a : Int} {b : Int} (h1 : (0 ≤ s ∧ s < f 568) ∧ isDt a ∧ isDt b ∧ a ≤ b) (h2 : ¬ (0 ≤ s ∧ s < f 568)) : False := by
  first
  | omega
  | (simp_all; done)
  | (simp_all; omega)
theorem nx_away_2_1 {s : Int} {f : sF} {a : Int} {b : Int} (h1 : (0 ≤ s ∧ s < f 568) ∧ isDt a ∧ isDt b ∧ a ≤ b) (h2 : (0 ≤ s ∧ s < f 568) ∧ ¬ (isDt a ∧ isDt b ∧ a ≤ b)) : False := by
  first
  | omega
  | (simp_all; done)
  | (simp_all; omega)
set_option maxHeartbeats 4000000 in
set_option maxRecDepth 100000 in
theorem law_28 {p_ : Program} {l_ : Launch} {e_ : Env} {s_ : State} {m_ : MethodId} {args_ : Array Value} {below_ : List Frame} {meth_ : Method} {c_ : Code} {nm_ : String} {G : sG} {b_ : Nat} {M0 : sM} {N0 : Nat} {Q : State → Prop} (E : sE p_ l_ e_ room_1 s_ m_ args_ below_ meth_ c_ cL_law 9 wsL_law RL nm_ (some .boolean) G b_ M0 N0) (hF_ : xcF s_) (hlt : l_.stackTraces = false) {z L : Nat} {xs : Nat → Int32} (hX : va_X z L xs s_ s_.heap) (hzb : z < b_) {c m o kb : Nat} (hg : c + 60 ≤ m ∧ m + 16 ≤ o ∧ o < kb) {cc_ ss_ : Nat} (hcc : cc_ + 1170 ≤ room_1.cells ∧ ss_ + 14000 ≤ room_1.slots) {q i : Int} (hi : 0 ≤ i ∧ i + 6 ≤ L ∧ (L : Int) ≤ 3072) (hq : 0 ≤ q ∧ q ≤ 600) {M : sM} {N : Nat} (hkN : kb ≤ N) (hI : lI G M c m o kb q) {H : Heap} {locs : List Loc} {ls : Array Slot} (hV : sV G b_ M N s_ H locs) (hl : lv_has ls 9 [(0, .ref z), (1, .ref c), (2, .ref m), (3, .ref o), (4, .int (sI i))])
    (hk : ∀ (M1 : sM) (N1 : Nat) (H1 : Heap) (locs1 : List Loc) (ls1 : Array Slot), kb ≤ N1 → lI G M1 c m o kb (q + 1) → sV G b_ M1 N1 s_ H1 locs1 → lv_has ls1 9 [(0, .ref z), (1, .ref c), (2, .ref m), (3, .ref o), (4, .int (sI i))] → W p_ l_ e_ room_1 s_ m_ args_ below_ meth_ c_ H1 locs1 (cc_ + 1170) (ss_ + 14000) Q (F0 m_ 2853 ls1 [])) : W p_ l_ e_ room_1 s_ m_ args_ below_ meth_ c_ H locs cc_ ss_ Q (F0 m_ 1907 ls []) := by
  have S := E.1
  have hx_ := S.1
  have hb_ := S.2.1
  have hK := E.2.2.2.2.1
  have hI2 := hI
  obtain ⟨kn, ch, f, fs, tn, te, t, wc, wn, T, T2, th, sn, nm, g0, A4, A5, A6, A7, A8, A9, A10, A11, A12, A13, A14, hc0, hst, htr, hkp, ht0, ht1, hct, hft, hly, hkn, hex, hm0, hm1, hsv, hm3, hm4, hm5, hm6, hm7, hm8, hm9, hm10, hm11, hm12, hm13, hm14, hm15, ho9, hlF, htp, hwr⟩ := hI2
  have hok := hlF.1.1
  have hdI := hlF.1.2.1
  have hsL := hlF.1.2.2.1
  have hclk := hlF.1.2.2.2
  have hchr : 0 ≤ ch ∧ ch ≤ 15 := ⟨hkp.r.2.2.1, hkp.r.2.2.2⟩
  have htp1 := htp.1
  have htp2 := htp.2.1
  have hwq := wrQ_e hwr
  have hwq1 := hwq.1
  have hwq2 := hwq.2.1
  have kn0 := sOk_N hok
  refine lv_aload_n hx_ hb_ dL_law_1907 rfl (lv_at hl 1 rfl) ?_
  refine lv_aload_n hx_ hb_ dL_law_1908 rfl (lv_at hl 0 rfl) ?_
  refine lv_iload hx_ hb_ dL_law_1909 (lv_at hl 4 rfl) ?_
  refine si_const S dL_law_1911 ?_
  refine si_add S dL_law_1912 ?_
  refine sc_sld S hV hX hzb (by omega) dL_law_1913 ?_
  refine lv_aload_n hx_ hb_ dL_law_1914 rfl (lv_at hl 0 rfl) ?_
  refine lv_iload hx_ hb_ dL_law_1915 (lv_at hl 4 rfl) ?_
  refine si_const S dL_law_1917 ?_
  refine si_add S dL_law_1918 ?_
  refine sc_sld S hV hX hzb (by omega) dL_law_1919 ?_
  refine lv_aload_n hx_ hb_ dL_law_1920 rfl (lv_at hl 0 rfl) ?_
  refine lv_iload hx_ hb_ dL_law_1921 (lv_at hl 4 rfl) ?_
  refine si_const S dL_law_1923 ?_
  refine si_add S dL_law_1924 ?_
  refine sc_sld S hV hX hzb (by omega) dL_law_1925 ?_
  refine lv_aload_n hx_ hb_ dL_law_1926 rfl (lv_at hl 3 rfl) ?_
  refine yk_Si (hh := [(0, 12, 15, 25), (0, 12, 19, 19)]) E hF_ hV (As := [.ref c, .int (sI (lX xs (i + 1))), .int (sI (lX xs (i + 2))), .int (sI (lX xs (i + 3))), .ref o]) (rest := []) (kL_away l_ G b_ M N o g0 c kn ch f (lX xs (i + 1)) (lX xs (i + 2)) (lX xs (i + 3)) hc0 hst hkn ho9 (hlt) (hok) (⟨lX_r xs _, lX_r xs _, lX_r xs _⟩) (by omega)) (vx_cwSW 5 S.2.2.2.2 gL_law_L_away rfl rfl rfl (by decide +kernel) ⟨Nat.le_of_ble_eq_true rfl, Nat.le_of_ble_eq_true rfl⟩) rfl rfl hl.1 (Nat.le_of_ble_eq_true rfl) dL_law_1927 (c1 := cc_ + 10) (s1 := ss_ + 60) ⟨⟨rfl, rfl⟩, by omega, by omega⟩ (fun z4 M1 N2 H locs hp3 hV => ?_)
  obtain ⟨hN5, hc6, hf7, hq8⟩ := hp3
  rcases hq8 with ⟨c9, ez10, hc11⟩ | ⟨c12, ez13, hc14⟩ | ⟨c15, ez16, hc17⟩
  · rw [ez10]
    refine lv_istore (lv' := [(5, .int (sI 1)), (0, .ref z), (1, .ref c), (2, .ref m), (3, .ref o), (4, .int (sI i))]) hx_ hb_ dL_law_1930 hl (by decide) rfl (fun ls hl => ?_)
    refine lv_aload_n hx_ hb_ dL_law_1932 rfl (lv_at hl 3 rfl) ?_
    refine lv_aload_n hx_ hb_ dL_law_1933 rfl (lv_at hl 1 rfl) ?_
    refine lv_iload hx_ hb_ dL_law_1934 (lv_at hl 5 rfl) ?_
    refine si_const S dL_law_1936 ?_
    refine si_add S dL_law_1937 ?_
    refine sc_sld S hV hX hzb (by omega) dL_law_1938 ?_
    refine lv_aload_n hx_ hb_ dL_law_1939 rfl (lv_at hl 1 rfl) ?_
    refine lv_iload hx_ hb_ dL_law_1940 (lv_at hl 5 rfl) ?_
    refine si_const S dL_law_1942 ?_
    refine si_add S dL_law_1943 ?_
    refine sc_sld S hV hX hzb (by omega) dL_law_1944 ?_
    refine lv_aload_n hx_ hb_ dL_law_1945 rfl (lv_at hl 1 rfl) ?_
    refine lv_iload hx_ hb_ dL_law_1946 (lv_at hl 5 rfl) ?_
    refine si_const S dL_law_1948 ?_
    refine si_add S dL_law_1949 ?_
    refine sc_sld S hV hX hzb (by omega) dL_law_1950 ?_
    have ga19 : ∀ x : Nat, m ≤ x → x < m + 16 → M1 x = M x := fun x u1 u2 => hf7 x (by omega) (by omega)
    have hc18 : M1 m = some (mO m th ch tn te sn nm wn) := (ga19 m (by omega) (by omega)).trans hm0
    have hc20 : M1 (m + 1) = some (sArr G 574 f) := (ga19 ((m + 1)) (by omega) (by omega)).trans hm1
    refine sk_Vi E hV (As := [.int (sI (lX xs (i + 1))), .int (sI (lX xs (i + 2))), .int (sI (lX xs (i + 3)))]) (rest := []) (kX11_away l_ G b_ M1 N2 m th ch tn te sn nm wn f (lX xs (i + 1)) (lX xs (i + 2)) (lX xs (i + 3)) hc18 hc20 (hok) (⟨lX_r xs _, lX_r xs _, lX_r xs _⟩)) (cwV 3 S.2.2.2.2 gL_law_X11_away rfl rfl rfl (by decide +kernel) ⟨Nat.le_of_ble_eq_true rfl, Nat.le_of_ble_eq_true rfl⟩) (ci := 9) hc18 rfl rfl rfl hl.1 (Nat.le_of_ble_eq_true rfl) dL_law_1951 (c1 := cc_ + 10) (s1 := ss_ + 60) ⟨⟨rfl, rfl⟩, by omega, by omega⟩ (fun z24 M21 N22 H locs hp23 hV => ?_)
    obtain ⟨hN25, hf26, hq27⟩ := hp23
    rw [hN25] at hV
    rcases hq27 with ⟨c28, ez29, hc30⟩ | ⟨c31, ez32, hc33⟩ | ⟨c34, ez35, hc36⟩
    · rw [ez29]
      refine lv_istore (lv' := [(6, .int (sI 0)), (5, .int (sI 1)), (0, .ref z), (1, .ref c), (2, .ref m), (3, .ref o), (4, .int (sI i))]) hx_ hb_ dL_law_1954 hl (by decide) rfl (fun ls hl => ?_)
      refine lv_aload_n hx_ hb_ dL_law_1956 rfl (lv_at hl 4 rfl) ?_
      refine sk_VP E hV (As := []) (rest := []) (kX11_thrown l_ G b_ M21 N2 m 1 ch tn te sn nm wn hc30) (cwV 0 S.2.2.2.2 gL_law_X11_thrown rfl rfl rfl (by decide +kernel) ⟨Nat.le_of_ble_eq_true rfl, Nat.le_of_ble_eq_true rfl⟩) (ci := 9) hc30 rfl rfl rfl hl.1 (Nat.le_of_ble_eq_true rfl) dL_law_1957 (c1 := cc_ + 10) (s1 := ss_ + 60) ⟨⟨rfl, rfl⟩, by omega, by omega⟩ (fun H locs hV => ?_)
      refine lv_iload hx_ hb_ dL_law_1960 (lv_at hl 1 rfl) ?_
      refine sb_eq (tgt := 1967) S dL_law_1962 (by decide) (by omega) (fun _ => ?_) (fun c37 => absurd c37 (by omega))
      refine lv_iload hx_ hb_ dL_law_1967 (lv_at hl 1 rfl) ?_
      refine sz_ne (tgt := 1984) S dL_law_1969 (by decide) (by omega) (fun _ => ?_) (fun c38 => absurd c38 (by omega))
      refine lv_goto (tgt := 2853) hx_ hb_ dL_law_1984 (by decide) ?_
      have gb40 : ∀ x : Nat, (x < m ∨ m + 16 ≤ x) → M21 x = M1 x := fun x u1 => hf26 x (by omega)
      have hc39 : M21 c = some (xO c kn ch) := ((gb40 c (by omega)).trans (hf7 c (by omega) (by omega))).trans hc0
      have hc41 : stC G M21 (c + 1) f := hst.fr (fun x q8 q9 => (gb40 x (by omega)).trans (hf7 x (by omega) (by omega)))
      have hc42 : triC G M21 (c + 16) := htr.fr (fun x q8 q9 => (gb40 x (by omega)).trans (hf7 x (by omega) (by omega)))
      have hc43 : kpC G M21 (c + 31) kb kn ch fs := hkp.fr (fun x q8 => (gb40 x (by omega)).trans (hf7 x (by omega) (by omega)))
      have hc44 : M21 (c + 32) = some (sObj 7 [.ref (c + 33), .int (sI tn), .int (sI te)]) := ((gb40 ((c + 32)) (by omega)).trans (hf7 (c + 32) (by omega) (by omega))).trans ht0
      have hc45 : M21 (c + 33) = some (sArr G 300 t) := ((gb40 ((c + 33)) (by omega)).trans (hf7 (c + 33) (by omega) (by omega))).trans ht1
      have hc46 : catC G M21 (c + 34) wc T := hct.fr (fun x q8 q9 => (gb40 x (by omega)).trans (hf7 x (by omega) (by omega)))
      have hc47 : orfC G M21 (c + 38) := hft.fr (fun x q8 q9 => (gb40 x (by omega)).trans (hf7 x (by omega) (by omega)))
      have hc48 : layC G M21 (c + 48) := hly.fr (fun x q8 q9 => (gb40 x (by omega)).trans (hf7 x (by omega) (by omega)))
      have hc49 : knoC G M21 (c + 54) := hc6.fr (fun x q8 q9 => gb40 x (by omega))
      have hc50 : excC G M21 (c + 57) := hex.fr (fun x q8 q9 => (gb40 x (by omega)).trans (hf7 x (by omega) (by omega)))
      have hc51 : M21 (m + 1) = some (sArr G 574 f) := (hf26 (m + 1) (by omega)).trans hc20
      have hc52 : svC G M21 (m + 2) ch fs := hsv.fr (fun x q8 q9 => (hf26 x (by omega)).trans (ga19 x (by omega) (by omega)))
      have hc53 : M21 (m + 3) = some (sArr G 300 t) := ((hf26 (m + 3) (by omega)).trans (ga19 ((m + 3)) (by omega) (by omega))).trans hm3
      have hc54 : M21 (m + 4) = some (sArr G 11 A4) := ((hf26 (m + 4) (by omega)).trans (ga19 ((m + 4)) (by omega) (by omega))).trans hm4
      have hc55 : M21 (m + 5) = some (sArr G 1024 A5) := ((hf26 (m + 5) (by omega)).trans (ga19 ((m + 5)) (by omega) (by omega))).trans hm5
      have hc56 : M21 (m + 6) = some (sArr G 1024 A6) := ((hf26 (m + 6) (by omega)).trans (ga19 ((m + 6)) (by omega) (by omega))).trans hm6
      have hc57 : M21 (m + 7) = some (sArr G 10 A7) := ((hf26 (m + 7) (by omega)).trans (ga19 ((m + 7)) (by omega) (by omega))).trans hm7
      have hc58 : M21 (m + 8) = some (sArr G 10 A8) := ((hf26 (m + 8) (by omega)).trans (ga19 ((m + 8)) (by omega) (by omega))).trans hm8
      have hc59 : M21 (m + 9) = some (sArr G 62 A9) := ((hf26 (m + 9) (by omega)).trans (ga19 ((m + 9)) (by omega) (by omega))).trans hm9
      have hc60 : M21 (m + 10) = some (sArr G 8 A10) := ((hf26 (m + 10) (by omega)).trans (ga19 ((m + 10)) (by omega) (by omega))).trans hm10
      have hc61 : M21 (m + 11) = some (sArr G 8 A11) := ((hf26 (m + 11) (by omega)).trans (ga19 ((m + 11)) (by omega) (by omega))).trans hm11
      have hc62 : M21 (m + 12) = some (sArr G 60 A12) := ((hf26 (m + 12) (by omega)).trans (ga19 ((m + 12)) (by omega) (by omega))).trans hm12
      have hc63 : M21 (m + 13) = some (sArr G 240 A13) := ((hf26 (m + 13) (by omega)).trans (ga19 ((m + 13)) (by omega) (by omega))).trans hm13
      have hc64 : M21 (m + 14) = some (sArr G 574 A14) := ((hf26 (m + 14) (by omega)).trans (ga19 ((m + 14)) (by omega) (by omega))).trans hm14
      have hc65 : M21 (m + 15) = some (sArr G 200 T2) := ((hf26 (m + 15) (by omega)).trans (ga19 ((m + 15)) (by omega) (by omega))).trans hm15
      have hc66 : M21 o = some (sArL G 1 g0) := (gb40 o (by omega)).trans hc11
      exact W.widen (by omega) (by omega) (hk _ _ _ _ _ (by omega) ⟨_, _, _, _, _, _, _, _, _, _, _, _, _, _, _, _, _, _, _, _, _, _, _, _, _, _, hc39, hc41, hc42, hc43, hc44, hc45, hc46, hc47, hc48, hc49, hc50, hc30, hc51, hc52, hc53, hc54, hc55, hc56, hc57, hc58, hc59, hc60, hc61, hc62, hc63, hc64, hc65, hc66, lF_s hlF, htp, hwr⟩ hV (lv_sub hl [2, 3, 4, 5, 6] rfl))
    · rw [ez32]
      exact (nx_away_0_1 c9 c31).elim
    · rw [ez35]
      exact (nx_away_0_2 c9 c34).elim
  · rw [ez13]
    refine lv_istore (lv' := [(5, .int (sI 2)), (0, .ref z), (1, .ref c), (2, .ref m), (3, .ref o), (4, .int (sI i))]) hx_ hb_ dL_law_1930 hl (by decide) rfl (fun ls hl => ?_)
    refine lv_aload_n hx_ hb_ dL_law_1932 rfl (lv_at hl 3 rfl) ?_
    refine lv_aload_n hx_ hb_ dL_law_1933 rfl (lv_at hl 1 rfl) ?_
    refine lv_iload hx_ hb_ dL_law_1934 (lv_at hl 5 rfl) ?_
    refine si_const S dL_law_1936 ?_
    refine si_add S dL_law_1937 ?_
    refine sc_sld S hV hX hzb (by omega) dL_law_1938 ?_
    refine lv_aload_n hx_ hb_ dL_law_1939 rfl (lv_at hl 1 rfl) ?_
    refine lv_iload hx_ hb_ dL_law_1940 (lv_at hl 5 rfl) ?_
    refine si_const S dL_law_1942 ?_
    refine si_add S dL_law_1943 ?_
    refine sc_sld S hV hX hzb (by omega) dL_law_1944 ?_
    refine lv_aload_n hx_ hb_ dL_law_1945 rfl (lv_at hl 1 rfl) ?_
    refine lv_iload hx_ hb_ dL_law_1946 (lv_at hl 5 rfl) ?_
    refine si_const S dL_law_1948 ?_
    refine si_add S dL_law_1949 ?_
    refine sc_sld S hV hX hzb (by omega) dL_law_1950 ?_
    have ga68 : ∀ x : Nat, m ≤ x → x < m + 16 → M1 x = M x := fun x u1 u2 => hf7 x (by omega) (by omega)
    have hc67 : M1 m = some (mO m th ch tn te sn nm wn) := (ga68 m (by omega) (by omega)).trans hm0
    have hc69 : M1 (m + 1) = some (sArr G 574 f) := (ga68 ((m + 1)) (by omega) (by omega)).trans hm1
    refine sk_Vi E hV (As := [.int (sI (lX xs (i + 1))), .int (sI (lX xs (i + 2))), .int (sI (lX xs (i + 3)))]) (rest := []) (kX11_away l_ G b_ M1 N2 m th ch tn te sn nm wn f (lX xs (i + 1)) (lX xs (i + 2)) (lX xs (i + 3)) hc67 hc69 (hok) (⟨lX_r xs _, lX_r xs _, lX_r xs _⟩)) (cwV 3 S.2.2.2.2 gL_law_X11_away rfl rfl rfl (by decide +kernel) ⟨Nat.le_of_ble_eq_true rfl, Nat.le_of_ble_eq_true rfl⟩) (ci := 9) hc67 rfl rfl rfl hl.1 (Nat.le_of_ble_eq_true rfl) dL_law_1951 (c1 := cc_ + 10) (s1 := ss_ + 60) ⟨⟨rfl, rfl⟩, by omega, by omega⟩ (fun z73 M70 N71 H locs hp72 hV => ?_)
    obtain ⟨hN74, hf75, hq76⟩ := hp72
    rw [hN74] at hV
    rcases hq76 with ⟨c77, ez78, hc79⟩ | ⟨c80, ez81, hc82⟩ | ⟨c83, ez84, hc85⟩
    · rw [ez78]
      exact (nx_away_1_0 c12 c77).elim
    · rw [ez81]
      refine lv_istore (lv' := [(6, .int (sI 0)), (5, .int (sI 2)), (0, .ref z), (1, .ref c), (2, .ref m), (3, .ref o), (4, .int (sI i))]) hx_ hb_ dL_law_1954 hl (by decide) rfl (fun ls hl => ?_)
      refine lv_aload_n hx_ hb_ dL_law_1956 rfl (lv_at hl 4 rfl) ?_
      refine sk_VP E hV (As := []) (rest := []) (kX11_thrown l_ G b_ M70 N2 m 2 ch tn te sn nm wn hc82) (cwV 0 S.2.2.2.2 gL_law_X11_thrown rfl rfl rfl (by decide +kernel) ⟨Nat.le_of_ble_eq_true rfl, Nat.le_of_ble_eq_true rfl⟩) (ci := 9) hc82 rfl rfl rfl hl.1 (Nat.le_of_ble_eq_true rfl) dL_law_1957 (c1 := cc_ + 10) (s1 := ss_ + 60) ⟨⟨rfl, rfl⟩, by omega, by omega⟩ (fun H locs hV => ?_)
      refine lv_iload hx_ hb_ dL_law_1960 (lv_at hl 1 rfl) ?_
      refine sb_eq (tgt := 1967) S dL_law_1962 (by decide) (by omega) (fun _ => ?_) (fun c86 => absurd c86 (by omega))
      refine lv_iload hx_ hb_ dL_law_1967 (lv_at hl 1 rfl) ?_
      refine sz_ne (tgt := 1984) S dL_law_1969 (by decide) (by omega) (fun _ => ?_) (fun c87 => absurd c87 (by omega))
      refine lv_goto (tgt := 2853) hx_ hb_ dL_law_1984 (by decide) ?_
      have gb89 : ∀ x : Nat, (x < m ∨ m + 16 ≤ x) → M70 x = M1 x := fun x u1 => hf75 x (by omega)
      have hc88 : M70 c = some (xO c kn ch) := ((gb89 c (by omega)).trans (hf7 c (by omega) (by omega))).trans hc0
      have hc90 : stC G M70 (c + 1) f := hst.fr (fun x q8 q9 => (gb89 x (by omega)).trans (hf7 x (by omega) (by omega)))
      have hc91 : triC G M70 (c + 16) := htr.fr (fun x q8 q9 => (gb89 x (by omega)).trans (hf7 x (by omega) (by omega)))
      have hc92 : kpC G M70 (c + 31) kb kn ch fs := hkp.fr (fun x q8 => (gb89 x (by omega)).trans (hf7 x (by omega) (by omega)))
      have hc93 : M70 (c + 32) = some (sObj 7 [.ref (c + 33), .int (sI tn), .int (sI te)]) := ((gb89 ((c + 32)) (by omega)).trans (hf7 (c + 32) (by omega) (by omega))).trans ht0
      have hc94 : M70 (c + 33) = some (sArr G 300 t) := ((gb89 ((c + 33)) (by omega)).trans (hf7 (c + 33) (by omega) (by omega))).trans ht1
      have hc95 : catC G M70 (c + 34) wc T := hct.fr (fun x q8 q9 => (gb89 x (by omega)).trans (hf7 x (by omega) (by omega)))
      have hc96 : orfC G M70 (c + 38) := hft.fr (fun x q8 q9 => (gb89 x (by omega)).trans (hf7 x (by omega) (by omega)))
      have hc97 : layC G M70 (c + 48) := hly.fr (fun x q8 q9 => (gb89 x (by omega)).trans (hf7 x (by omega) (by omega)))
      have hc98 : knoC G M70 (c + 54) := hc6.fr (fun x q8 q9 => gb89 x (by omega))
      have hc99 : excC G M70 (c + 57) := hex.fr (fun x q8 q9 => (gb89 x (by omega)).trans (hf7 x (by omega) (by omega)))
      have hc100 : M70 (m + 1) = some (sArr G 574 f) := (hf75 (m + 1) (by omega)).trans hc69
      have hc101 : svC G M70 (m + 2) ch fs := hsv.fr (fun x q8 q9 => (hf75 x (by omega)).trans (ga68 x (by omega) (by omega)))
      have hc102 : M70 (m + 3) = some (sArr G 300 t) := ((hf75 (m + 3) (by omega)).trans (ga68 ((m + 3)) (by omega) (by omega))).trans hm3
      have hc103 : M70 (m + 4) = some (sArr G 11 A4) := ((hf75 (m + 4) (by omega)).trans (ga68 ((m + 4)) (by omega) (by omega))).trans hm4
      have hc104 : M70 (m + 5) = some (sArr G 1024 A5) := ((hf75 (m + 5) (by omega)).trans (ga68 ((m + 5)) (by omega) (by omega))).trans hm5
      have hc105 : M70 (m + 6) = some (sArr G 1024 A6) := ((hf75 (m + 6) (by omega)).trans (ga68 ((m + 6)) (by omega) (by omega))).trans hm6
      have hc106 : M70 (m + 7) = some (sArr G 10 A7) := ((hf75 (m + 7) (by omega)).trans (ga68 ((m + 7)) (by omega) (by omega))).trans hm7
      have hc107 : M70 (m + 8) = some (sArr G 10 A8) := ((hf75 (m + 8) (by omega)).trans (ga68 ((m + 8)) (by omega) (by omega))).trans hm8
      have hc108 : M70 (m + 9) = some (sArr G 62 A9) := ((hf75 (m + 9) (by omega)).trans (ga68 ((m + 9)) (by omega) (by omega))).trans hm9
      have hc109 : M70 (m + 10) = some (sArr G 8 A10) := ((hf75 (m + 10) (by omega)).trans (ga68 ((m + 10)) (by omega) (by omega))).trans hm10
      have hc110 : M70 (m + 11) = some (sArr G 8 A11) := ((hf75 (m + 11) (by omega)).trans (ga68 ((m + 11)) (by omega) (by omega))).trans hm11
      have hc111 : M70 (m + 12) = some (sArr G 60 A12) := ((hf75 (m + 12) (by omega)).trans (ga68 ((m + 12)) (by omega) (by omega))).trans hm12
      have hc112 : M70 (m + 13) = some (sArr G 240 A13) := ((hf75 (m + 13) (by omega)).trans (ga68 ((m + 13)) (by omega) (by omega))).trans hm13
      have hc113 : M70 (m + 14) = some (sArr G 574 A14) := ((hf75 (m + 14) (by omega)).trans (ga68 ((m + 14)) (by omega) (by omega))).trans hm14
      have hc114 : M70 (m + 15) = some (sArr G 200 T2) := ((hf75 (m + 15) (by omega)).trans (ga68 ((m + 15)) (by omega) (by omega))).trans hm15
      have hc115 : M70 o = some (sArL G 1 g0) := (gb89 o (by omega)).trans hc14
      exact W.widen (by omega) (by omega) (hk _ _ _ _ _ (by omega) ⟨_, _, _, _, _, _, _, _, _, _, _, _, _, _, _, _, _, _, _, _, _, _, _, _, _, _, hc88, hc90, hc91, hc92, hc93, hc94, hc95, hc96, hc97, hc98, hc99, hc82, hc100, hc101, hc102, hc103, hc104, hc105, hc106, hc107, hc108, hc109, hc110, hc111, hc112, hc113, hc114, hc115, lF_s hlF, htp, hwr⟩ hV (lv_sub hl [2, 3, 4, 5, 6] rfl))
    · rw [ez84]
      exact (nx_away_1_2 c12 c83).elim
  · rw [ez16]
    refine lv_istore (lv' := [(5, .int (sI 0)), (0, .ref z), (1, .ref c), (2, .ref m), (3, .ref o), (4, .int (sI i))]) hx_ hb_ dL_law_1930 hl (by decide) rfl (fun ls hl => ?_)
    refine lv_aload_n hx_ hb_ dL_law_1932 rfl (lv_at hl 3 rfl) ?_
    refine lv_aload_n hx_ hb_ dL_law_1933 rfl (lv_at hl 1 rfl) ?_
    refine lv_iload hx_ hb_ dL_law_1934 (lv_at hl 5 rfl) ?_
    refine si_const S dL_law_1936 ?_
    refine si_add S dL_law_1937 ?_
    refine sc_sld S hV hX hzb (by omega) dL_law_1938 ?_
    refine lv_aload_n hx_ hb_ dL_law_1939 rfl (lv_at hl 1 rfl) ?_
    refine lv_iload hx_ hb_ dL_law_1940 (lv_at hl 5 rfl) ?_
    refine si_const S dL_law_1942 ?_
    refine si_add S dL_law_1943 ?_
    refine sc_sld S hV hX hzb (by omega) dL_law_1944 ?_
    refine lv_aload_n hx_ hb_ dL_law_1945 rfl (lv_at hl 1 rfl) ?_
    refine lv_iload hx_ hb_ dL_law_1946 (lv_at hl 5 rfl) ?_
    refine si_const S dL_law_1948 ?_
    refine si_add S dL_law_1949 ?_
    refine sc_sld S hV hX hzb (by omega) dL_law_1950 ?_
    have ga117 : ∀ x : Nat, m ≤ x → x < m + 16 → M1 x = M x := fun x u1 u2 => hf7 x (by omega) (by omega)
    have hc116 : M1 m = some (mO m th ch tn te sn nm wn) := (ga117 m (by omega) (by omega)).trans hm0
    have hc118 : M1 (m + 1) = some (sArr G 574 f) := (ga117 ((m + 1)) (by omega) (by omega)).trans hm1
    refine sk_Vi E hV (As := [.int (sI (lX xs (i + 1))), .int (sI (lX xs (i + 2))), .int (sI (lX xs (i + 3)))]) (rest := []) (kX11_away l_ G b_ M1 N2 m th ch tn te sn nm wn f (lX xs (i + 1)) (lX xs (i + 2)) (lX xs (i + 3)) hc116 hc118 (hok) (⟨lX_r xs _, lX_r xs _, lX_r xs _⟩)) (cwV 3 S.2.2.2.2 gL_law_X11_away rfl rfl rfl (by decide +kernel) ⟨Nat.le_of_ble_eq_true rfl, Nat.le_of_ble_eq_true rfl⟩) (ci := 9) hc116 rfl rfl rfl hl.1 (Nat.le_of_ble_eq_true rfl) dL_law_1951 (c1 := cc_ + 10) (s1 := ss_ + 60) ⟨⟨rfl, rfl⟩, by omega, by omega⟩ (fun z122 M119 N120 H locs hp121 hV => ?_)
    obtain ⟨hN123, hf124, hq125⟩ := hp121
    rw [hN123] at hV
    rcases hq125 with ⟨c126, ez127, hc128⟩ | ⟨c129, ez130, hc131⟩ | ⟨c132, ez133, hc134⟩
    · rw [ez127]
      exact (nx_away_2_0 c15 c126).elim
    · rw [ez130]
      exact (nx_away_2_1 c15 c129).elim
    · rw [ez133]
      refine lv_istore (lv' := [(6, .int (sI (isum (dayI (lX xs (i + 3)) - dayI (lX xs (i + 2)) + 1) (awT f (lX xs (i + 1)) (dayI (lX xs (i + 2)) + 3652))))), (5, .int (sI 0)), (0, .ref z), (1, .ref c), (2, .ref m), (3, .ref o), (4, .int (sI i))]) hx_ hb_ dL_law_1954 hl (by decide) rfl (fun ls hl => ?_)
      refine lv_aload_n hx_ hb_ dL_law_1956 rfl (lv_at hl 4 rfl) ?_
      refine sk_VP E hV (As := []) (rest := []) (kX11_thrown l_ G b_ M119 N2 m 0 ch tn te sn nm wn hc134) (cwV 0 S.2.2.2.2 gL_law_X11_thrown rfl rfl rfl (by decide +kernel) ⟨Nat.le_of_ble_eq_true rfl, Nat.le_of_ble_eq_true rfl⟩) (ci := 9) hc134 rfl rfl rfl hl.1 (Nat.le_of_ble_eq_true rfl) dL_law_1957 (c1 := cc_ + 10) (s1 := ss_ + 60) ⟨⟨rfl, rfl⟩, by omega, by omega⟩ (fun H locs hV => ?_)
      refine lv_iload hx_ hb_ dL_law_1960 (lv_at hl 1 rfl) ?_
      refine sb_eq (tgt := 1967) S dL_law_1962 (by decide) (by omega) (fun _ => ?_) (fun c135 => absurd c135 (by omega))
      refine lv_iload hx_ hb_ dL_law_1967 (lv_at hl 1 rfl) ?_
      refine sz_ne (tgt := 1984) S dL_law_1969 (by decide) (by omega) (fun c136 => absurd c136 (by omega)) (fun _ => ?_)
      refine lv_aload_n hx_ hb_ dL_law_1972 rfl (lv_at hl 5 rfl) ?_
      refine si_const S dL_law_1973 ?_
      have gb138 : ∀ x : Nat, (x < m ∨ m + 16 ≤ x) → M119 x = M1 x := fun x u1 => hf124 x (by omega)
      have hc137 : M119 o = some (sArL G 1 (iup g0 0 (sW (isum (dayI (lX xs (i + 3)) - dayI (lX xs (i + 2)) + 1) (awT f (lX xs (i + 1)) (dayI (lX xs (i + 2)) + 3652)))))) := (gb138 o (by omega)).trans hc17
      refine sc_lald S hK hV hc137 (by omega) dL_law_1974 ?_
      rw [show (iup g0 0 (sW (isum (dayI (lX xs (i + 3)) - dayI (lX xs (i + 2)) + 1) (awT f (lX xs (i + 1)) (dayI (lX xs (i + 2)) + 3652))))) 0 = sW (isum (dayI (lX xs (i + 3)) - dayI (lX xs (i + 2)) + 1) (awT f (lX xs (i + 1)) (dayI (lX xs (i + 2)) + 3652))) from if_pos rfl]
      refine lv_iload hx_ hb_ dL_law_1975 (lv_at hl 0 rfl) ?_
      refine sl_i2w S dL_law_1977 ?_
      refine sl_cmp0 S (rfl) dL_law_1978 ?_
      refine sz_eq (tgt := 1984) S dL_law_1979 (by decide) (by omega) (fun _ => ?_) (fun c139 => absurd c139 (by omega))
      refine lv_goto (tgt := 2853) hx_ hb_ dL_law_1984 (by decide) ?_
      have hc140 : M119 c = some (xO c kn ch) := ((gb138 c (by omega)).trans (hf7 c (by omega) (by omega))).trans hc0
      have hc141 : stC G M119 (c + 1) f := hst.fr (fun x q8 q9 => (gb138 x (by omega)).trans (hf7 x (by omega) (by omega)))
      have hc142 : triC G M119 (c + 16) := htr.fr (fun x q8 q9 => (gb138 x (by omega)).trans (hf7 x (by omega) (by omega)))
      have hc143 : kpC G M119 (c + 31) kb kn ch fs := hkp.fr (fun x q8 => (gb138 x (by omega)).trans (hf7 x (by omega) (by omega)))
      have hc144 : M119 (c + 32) = some (sObj 7 [.ref (c + 33), .int (sI tn), .int (sI te)]) := ((gb138 ((c + 32)) (by omega)).trans (hf7 (c + 32) (by omega) (by omega))).trans ht0
      have hc145 : M119 (c + 33) = some (sArr G 300 t) := ((gb138 ((c + 33)) (by omega)).trans (hf7 (c + 33) (by omega) (by omega))).trans ht1
      have hc146 : catC G M119 (c + 34) wc T := hct.fr (fun x q8 q9 => (gb138 x (by omega)).trans (hf7 x (by omega) (by omega)))
      have hc147 : orfC G M119 (c + 38) := hft.fr (fun x q8 q9 => (gb138 x (by omega)).trans (hf7 x (by omega) (by omega)))
      have hc148 : layC G M119 (c + 48) := hly.fr (fun x q8 q9 => (gb138 x (by omega)).trans (hf7 x (by omega) (by omega)))
      have hc149 : knoC G M119 (c + 54) := hc6.fr (fun x q8 q9 => gb138 x (by omega))
      have hc150 : excC G M119 (c + 57) := hex.fr (fun x q8 q9 => (gb138 x (by omega)).trans (hf7 x (by omega) (by omega)))
      have hc151 : M119 (m + 1) = some (sArr G 574 f) := (hf124 (m + 1) (by omega)).trans hc118
      have hc152 : svC G M119 (m + 2) ch fs := hsv.fr (fun x q8 q9 => (hf124 x (by omega)).trans (ga117 x (by omega) (by omega)))
      have hc153 : M119 (m + 3) = some (sArr G 300 t) := ((hf124 (m + 3) (by omega)).trans (ga117 ((m + 3)) (by omega) (by omega))).trans hm3
      have hc154 : M119 (m + 4) = some (sArr G 11 A4) := ((hf124 (m + 4) (by omega)).trans (ga117 ((m + 4)) (by omega) (by omega))).trans hm4
      have hc155 : M119 (m + 5) = some (sArr G 1024 A5) := ((hf124 (m + 5) (by omega)).trans (ga117 ((m + 5)) (by omega) (by omega))).trans hm5
      have hc156 : M119 (m + 6) = some (sArr G 1024 A6) := ((hf124 (m + 6) (by omega)).trans (ga117 ((m + 6)) (by omega) (by omega))).trans hm6
      have hc157 : M119 (m + 7) = some (sArr G 10 A7) := ((hf124 (m + 7) (by omega)).trans (ga117 ((m + 7)) (by omega) (by omega))).trans hm7
      have hc158 : M119 (m + 8) = some (sArr G 10 A8) := ((hf124 (m + 8) (by omega)).trans (ga117 ((m + 8)) (by omega) (by omega))).trans hm8
      have hc159 : M119 (m + 9) = some (sArr G 62 A9) := ((hf124 (m + 9) (by omega)).trans (ga117 ((m + 9)) (by omega) (by omega))).trans hm9
      have hc160 : M119 (m + 10) = some (sArr G 8 A10) := ((hf124 (m + 10) (by omega)).trans (ga117 ((m + 10)) (by omega) (by omega))).trans hm10
      have hc161 : M119 (m + 11) = some (sArr G 8 A11) := ((hf124 (m + 11) (by omega)).trans (ga117 ((m + 11)) (by omega) (by omega))).trans hm11
      have hc162 : M119 (m + 12) = some (sArr G 60 A12) := ((hf124 (m + 12) (by omega)).trans (ga117 ((m + 12)) (by omega) (by omega))).trans hm12
      have hc163 : M119 (m + 13) = some (sArr G 240 A13) := ((hf124 (m + 13) (by omega)).trans (ga117 ((m + 13)) (by omega) (by omega))).trans hm13
      have hc164 : M119 (m + 14) = some (sArr G 574 A14) := ((hf124 (m + 14) (by omega)).trans (ga117 ((m + 14)) (by omega) (by omega))).trans hm14
      have hc165 : M119 (m + 15) = some (sArr G 200 T2) := ((hf124 (m + 15) (by omega)).trans (ga117 ((m + 15)) (by omega) (by omega))).trans hm15
      exact W.widen (by omega) (by omega) (hk _ _ _ _ _ (by omega) ⟨_, _, _, _, _, _, _, _, _, _, _, _, _, _, _, _, _, _, _, _, _, _, _, _, _, _, hc140, hc141, hc142, hc143, hc144, hc145, hc146, hc147, hc148, hc149, hc150, hc134, hc151, hc152, hc153, hc154, hc155, hc156, hc157, hc158, hc159, hc160, hc161, hc162, hc163, hc164, hc165, hc137, lF_s hlF, htp, hwr⟩ hV (lv_sub hl [2, 3, 4, 5, 6] rfl))

theorem nx_fee_0_1 {s : Int} {f : sF} {a : Int} {b : Int} (h1 : ¬ (0 ≤ s ∧ s < f 568)) (h2 : (0 ≤ s ∧ s < f 568) ∧ ¬ (isDt a ∧ isDt b ∧ a ≤ b)) : False := by
  first
  | omega
  | (simp_all; done)
  | (simp_all; omega)
theorem nx_fee_0_2 {s : Int} {f : sF} {a : Int} {b : Int} (h1 : ¬ (0 ≤ s ∧ s < f 568)) (h2 : (0 ≤ s ∧ s < f 568) ∧ isDt a ∧ isDt b ∧ a ≤ b) : False := by
  first
  | omega
  | (simp_all; done)
  | (simp_all; omega)
theorem nx_fee_1_0 {s : Int} {f : sF} {a : Int} {b : Int} (h1 : (0 ≤ s ∧ s < f 568) ∧ ¬ (isDt a ∧ isDt b ∧ a ≤ b)) (h2 : ¬ (0 ≤ s ∧ s < f 568)) : False := by
  first
  | omega
  | (simp_all; done)
  | (simp_all; omega)
theorem nx_fee_1_2 {s : Int} {f : sF} {a : Int} {b : Int} (h1 : (0 ≤ s ∧ s < f 568) ∧ ¬ (isDt a ∧ isDt b ∧ a ≤ b)) (h2 : (0 ≤ s ∧ s < f 568) ∧ isDt a ∧ isDt b ∧ a ≤ b) : False := by
  first
  | omega
  | (simp_all; done)
  | (simp_all; omega)
theorem nx_fee_2_0 {s : Int} {f : sF} {a : Int} {b : Int} (h1 : (0 ≤ s ∧ s < f 568) ∧ isDt a ∧ isDt b ∧ a ≤ b) (h2 : ¬ (0 ≤ s ∧ s < f 568)) : False := by
  first
  | omega
  | (simp_all; done)
  | (simp_all; omega)
theorem nx_fee_2_1 {s : Int} {f : sF} {a : Int} {b : Int} (h1 : (0 ≤ s ∧ s < f 568) ∧ isDt a ∧ isDt b ∧ a ≤ b) (h2 : (0 ≤ s ∧ s < f 568) ∧ ¬ (isDt a ∧ isDt b ∧ a ≤ b)) : False := by
  first
  | omega
  | (simp_all; done)
  | (simp_all; omega)
set_option maxHeartbeats 4000000 in
set_option maxRecDepth 100000 in
theorem law_29 {p_ : Program} {l_ : Launch} {e_ : Env} {s_ : State} {m_ : MethodId} {args_ : Array Value} {below_ : List Frame} {meth_ : Method} {c_ : Code} {nm_ : String} {G : sG} {b_ : Nat} {M0 : sM} {N0 : Nat} {Q : State → Prop} (E : sE p_ l_ e_ room_1 s_ m_ args_ below_ meth_ c_ cL_law 9 wsL_law RL nm_ (some .boolean) G b_ M0 N0) (hF_ : xcF s_) (hlt : l_.stackTraces = false) {z L : Nat} {xs : Nat → Int32} (hX : va_X z L xs s_ s_.heap) (hzb : z < b_) {c m o kb : Nat} (hg : c + 60 ≤ m ∧ m + 16 ≤ o ∧ o < kb) {cc_ ss_ : Nat} (hcc : cc_ + 1170 ≤ room_1.cells ∧ ss_ + 14000 ≤ room_1.slots) {q i : Int} (hi : 0 ≤ i ∧ i + 6 ≤ L ∧ (L : Int) ≤ 3072) (hq : 0 ≤ q ∧ q ≤ 600) {M : sM} {N : Nat} (hkN : kb ≤ N) (hI : lI G M c m o kb q) {H : Heap} {locs : List Loc} {ls : Array Slot} (hV : sV G b_ M N s_ H locs) (hl : lv_has ls 9 [(0, .ref z), (1, .ref c), (2, .ref m), (3, .ref o), (4, .int (sI i))])
    (hk : ∀ (M1 : sM) (N1 : Nat) (H1 : Heap) (locs1 : List Loc) (ls1 : Array Slot), kb ≤ N1 → lI G M1 c m o kb (q + 1) → sV G b_ M1 N1 s_ H1 locs1 → lv_has ls1 9 [(0, .ref z), (1, .ref c), (2, .ref m), (3, .ref o), (4, .int (sI i))] → W p_ l_ e_ room_1 s_ m_ args_ below_ meth_ c_ H1 locs1 (cc_ + 1170) (ss_ + 14000) Q (F0 m_ 2853 ls1 [])) : W p_ l_ e_ room_1 s_ m_ args_ below_ meth_ c_ H locs cc_ ss_ Q (F0 m_ 1987 ls []) := by
  have S := E.1
  have hx_ := S.1
  have hb_ := S.2.1
  have hK := E.2.2.2.2.1
  have hI2 := hI
  obtain ⟨kn, ch, f, fs, tn, te, t, wc, wn, T, T2, th, sn, nm, g0, A4, A5, A6, A7, A8, A9, A10, A11, A12, A13, A14, hc0, hst, htr, hkp, ht0, ht1, hct, hft, hly, hkn, hex, hm0, hm1, hsv, hm3, hm4, hm5, hm6, hm7, hm8, hm9, hm10, hm11, hm12, hm13, hm14, hm15, ho9, hlF, htp, hwr⟩ := hI2
  have hok := hlF.1.1
  have hdI := hlF.1.2.1
  have hsL := hlF.1.2.2.1
  have hclk := hlF.1.2.2.2
  have hchr : 0 ≤ ch ∧ ch ≤ 15 := ⟨hkp.r.2.2.1, hkp.r.2.2.2⟩
  have htp1 := htp.1
  have htp2 := htp.2.1
  have hwq := wrQ_e hwr
  have hwq1 := hwq.1
  have hwq2 := hwq.2.1
  have kn0 := sOk_N hok
  refine lv_aload_n hx_ hb_ dL_law_1987 rfl (lv_at hl 1 rfl) ?_
  refine lv_aload_n hx_ hb_ dL_law_1988 rfl (lv_at hl 0 rfl) ?_
  refine lv_iload hx_ hb_ dL_law_1989 (lv_at hl 4 rfl) ?_
  refine si_const S dL_law_1991 ?_
  refine si_add S dL_law_1992 ?_
  refine sc_sld S hV hX hzb (by omega) dL_law_1993 ?_
  refine lv_aload_n hx_ hb_ dL_law_1994 rfl (lv_at hl 0 rfl) ?_
  refine lv_iload hx_ hb_ dL_law_1995 (lv_at hl 4 rfl) ?_
  refine si_const S dL_law_1997 ?_
  refine si_add S dL_law_1998 ?_
  refine sc_sld S hV hX hzb (by omega) dL_law_1999 ?_
  refine lv_aload_n hx_ hb_ dL_law_2000 rfl (lv_at hl 0 rfl) ?_
  refine lv_iload hx_ hb_ dL_law_2001 (lv_at hl 4 rfl) ?_
  refine si_const S dL_law_2003 ?_
  refine si_add S dL_law_2004 ?_
  refine sc_sld S hV hX hzb (by omega) dL_law_2005 ?_
  refine lv_aload_n hx_ hb_ dL_law_2006 rfl (lv_at hl 3 rfl) ?_
  refine yk_Si (hh := [(0, 11, 14, 25), (0, 11, 18, 19)]) E hF_ hV (As := [.ref c, .int (sI (lX xs (i + 1))), .int (sI (lX xs (i + 2))), .int (sI (lX xs (i + 3))), .ref o]) (rest := []) (kL_fee l_ G b_ M N o g0 c kn ch f (lX xs (i + 1)) (lX xs (i + 2)) (lX xs (i + 3)) hc0 hst hkn ho9 (hlt) (hok) (⟨lX_r xs _, lX_r xs _, lX_r xs _⟩) (by omega)) (vx_cwSW 5 S.2.2.2.2 gL_law_L_fee rfl rfl rfl (by decide +kernel) ⟨Nat.le_of_ble_eq_true rfl, Nat.le_of_ble_eq_true rfl⟩) rfl rfl hl.1 (Nat.le_of_ble_eq_true rfl) dL_law_2007 (c1 := cc_ + 10) (s1 := ss_ + 60) ⟨⟨rfl, rfl⟩, by omega, by omega⟩ (fun z4 M1 N2 H locs hp3 hV => ?_)
  obtain ⟨hN5, hc6, hf7, hq8⟩ := hp3
  rcases hq8 with ⟨c9, ez10, hc11⟩ | ⟨c12, ez13, hc14⟩ | ⟨c15, ez16, hc17⟩
  · rw [ez10]
    refine lv_istore (lv' := [(5, .int (sI 1)), (0, .ref z), (1, .ref c), (2, .ref m), (3, .ref o), (4, .int (sI i))]) hx_ hb_ dL_law_2010 hl (by decide) rfl (fun ls hl => ?_)
    refine lv_aload_n hx_ hb_ dL_law_2012 rfl (lv_at hl 3 rfl) ?_
    refine lv_aload_n hx_ hb_ dL_law_2013 rfl (lv_at hl 1 rfl) ?_
    refine lv_iload hx_ hb_ dL_law_2014 (lv_at hl 5 rfl) ?_
    refine si_const S dL_law_2016 ?_
    refine si_add S dL_law_2017 ?_
    refine sc_sld S hV hX hzb (by omega) dL_law_2018 ?_
    refine lv_aload_n hx_ hb_ dL_law_2019 rfl (lv_at hl 1 rfl) ?_
    refine lv_iload hx_ hb_ dL_law_2020 (lv_at hl 5 rfl) ?_
    refine si_const S dL_law_2022 ?_
    refine si_add S dL_law_2023 ?_
    refine sc_sld S hV hX hzb (by omega) dL_law_2024 ?_
    refine lv_aload_n hx_ hb_ dL_law_2025 rfl (lv_at hl 1 rfl) ?_
    refine lv_iload hx_ hb_ dL_law_2026 (lv_at hl 5 rfl) ?_
    refine si_const S dL_law_2028 ?_
    refine si_add S dL_law_2029 ?_
    refine sc_sld S hV hX hzb (by omega) dL_law_2030 ?_
    have ga19 : ∀ x : Nat, m ≤ x → x < m + 16 → M1 x = M x := fun x u1 u2 => hf7 x (by omega) (by omega)
    have hc18 : M1 m = some (mO m th ch tn te sn nm wn) := (ga19 m (by omega) (by omega)).trans hm0
    have hc20 : M1 (m + 1) = some (sArr G 574 f) := (ga19 ((m + 1)) (by omega) (by omega)).trans hm1
    refine sk_Vl E hV (As := [.int (sI (lX xs (i + 1))), .int (sI (lX xs (i + 2))), .int (sI (lX xs (i + 3)))]) (rest := []) (kX11_fee l_ G b_ M1 N2 m th ch tn te sn nm wn f (lX xs (i + 1)) (lX xs (i + 2)) (lX xs (i + 3)) hc18 hc20 (hok) (⟨lX_r xs _, lX_r xs _, lX_r xs _⟩)) (cwV 3 S.2.2.2.2 gL_law_X11_fee rfl rfl rfl (by decide +kernel) ⟨Nat.le_of_ble_eq_true rfl, Nat.le_of_ble_eq_true rfl⟩) (ci := 9) hc18 rfl rfl rfl hl.1 (Nat.le_of_ble_eq_true rfl) dL_law_2031 (c1 := cc_ + 10) (s1 := ss_ + 60) ⟨⟨rfl, rfl⟩, by omega, by omega⟩ (fun z24 M21 N22 H locs hp23 hV => ?_)
    obtain ⟨hN25, hf26, hq27⟩ := hp23
    rw [hN25] at hV
    rcases hq27 with ⟨c28, ez29, hc30⟩ | ⟨c31, ez32, hc33⟩ | ⟨c34, ez35, hc36⟩
    · rw [ez29]
      refine lv_lstore (lv' := [(6, .long (sL 0)), (5, .int (sI 1)), (0, .ref z), (1, .ref c), (2, .ref m), (3, .ref o), (4, .int (sI i))]) hx_ hb_ dL_law_2034 hl (by decide) rfl (fun ls hl => ?_)
      refine lv_aload_n hx_ hb_ dL_law_2036 rfl (lv_at hl 4 rfl) ?_
      refine sk_VP E hV (As := []) (rest := []) (kX11_thrown l_ G b_ M21 N2 m 1 ch tn te sn nm wn hc30) (cwV 0 S.2.2.2.2 gL_law_X11_thrown rfl rfl rfl (by decide +kernel) ⟨Nat.le_of_ble_eq_true rfl, Nat.le_of_ble_eq_true rfl⟩) (ci := 9) hc30 rfl rfl rfl hl.1 (Nat.le_of_ble_eq_true rfl) dL_law_2037 (c1 := cc_ + 10) (s1 := ss_ + 60) ⟨⟨rfl, rfl⟩, by omega, by omega⟩ (fun H locs hV => ?_)
      refine lv_iload hx_ hb_ dL_law_2040 (lv_at hl 1 rfl) ?_
      refine sb_eq (tgt := 2047) S dL_law_2042 (by decide) (by omega) (fun _ => ?_) (fun c37 => absurd c37 (by omega))
      refine lv_iload hx_ hb_ dL_law_2047 (lv_at hl 1 rfl) ?_
      refine sz_ne (tgt := 2063) S dL_law_2049 (by decide) (by omega) (fun _ => ?_) (fun c38 => absurd c38 (by omega))
      refine lv_goto (tgt := 2853) hx_ hb_ dL_law_2063 (by decide) ?_
      have gb40 : ∀ x : Nat, (x < m ∨ m + 16 ≤ x) → M21 x = M1 x := fun x u1 => hf26 x (by omega)
      have hc39 : M21 c = some (xO c kn ch) := ((gb40 c (by omega)).trans (hf7 c (by omega) (by omega))).trans hc0
      have hc41 : stC G M21 (c + 1) f := hst.fr (fun x q8 q9 => (gb40 x (by omega)).trans (hf7 x (by omega) (by omega)))
      have hc42 : triC G M21 (c + 16) := htr.fr (fun x q8 q9 => (gb40 x (by omega)).trans (hf7 x (by omega) (by omega)))
      have hc43 : kpC G M21 (c + 31) kb kn ch fs := hkp.fr (fun x q8 => (gb40 x (by omega)).trans (hf7 x (by omega) (by omega)))
      have hc44 : M21 (c + 32) = some (sObj 7 [.ref (c + 33), .int (sI tn), .int (sI te)]) := ((gb40 ((c + 32)) (by omega)).trans (hf7 (c + 32) (by omega) (by omega))).trans ht0
      have hc45 : M21 (c + 33) = some (sArr G 300 t) := ((gb40 ((c + 33)) (by omega)).trans (hf7 (c + 33) (by omega) (by omega))).trans ht1
      have hc46 : catC G M21 (c + 34) wc T := hct.fr (fun x q8 q9 => (gb40 x (by omega)).trans (hf7 x (by omega) (by omega)))
      have hc47 : orfC G M21 (c + 38) := hft.fr (fun x q8 q9 => (gb40 x (by omega)).trans (hf7 x (by omega) (by omega)))
      have hc48 : layC G M21 (c + 48) := hly.fr (fun x q8 q9 => (gb40 x (by omega)).trans (hf7 x (by omega) (by omega)))
      have hc49 : knoC G M21 (c + 54) := hc6.fr (fun x q8 q9 => gb40 x (by omega))
      have hc50 : excC G M21 (c + 57) := hex.fr (fun x q8 q9 => (gb40 x (by omega)).trans (hf7 x (by omega) (by omega)))
      have hc51 : M21 (m + 1) = some (sArr G 574 f) := (hf26 (m + 1) (by omega)).trans hc20
      have hc52 : svC G M21 (m + 2) ch fs := hsv.fr (fun x q8 q9 => (hf26 x (by omega)).trans (ga19 x (by omega) (by omega)))
      have hc53 : M21 (m + 3) = some (sArr G 300 t) := ((hf26 (m + 3) (by omega)).trans (ga19 ((m + 3)) (by omega) (by omega))).trans hm3
      have hc54 : M21 (m + 4) = some (sArr G 11 A4) := ((hf26 (m + 4) (by omega)).trans (ga19 ((m + 4)) (by omega) (by omega))).trans hm4
      have hc55 : M21 (m + 5) = some (sArr G 1024 A5) := ((hf26 (m + 5) (by omega)).trans (ga19 ((m + 5)) (by omega) (by omega))).trans hm5
      have hc56 : M21 (m + 6) = some (sArr G 1024 A6) := ((hf26 (m + 6) (by omega)).trans (ga19 ((m + 6)) (by omega) (by omega))).trans hm6
      have hc57 : M21 (m + 7) = some (sArr G 10 A7) := ((hf26 (m + 7) (by omega)).trans (ga19 ((m + 7)) (by omega) (by omega))).trans hm7
      have hc58 : M21 (m + 8) = some (sArr G 10 A8) := ((hf26 (m + 8) (by omega)).trans (ga19 ((m + 8)) (by omega) (by omega))).trans hm8
      have hc59 : M21 (m + 9) = some (sArr G 62 A9) := ((hf26 (m + 9) (by omega)).trans (ga19 ((m + 9)) (by omega) (by omega))).trans hm9
      have hc60 : M21 (m + 10) = some (sArr G 8 A10) := ((hf26 (m + 10) (by omega)).trans (ga19 ((m + 10)) (by omega) (by omega))).trans hm10
      have hc61 : M21 (m + 11) = some (sArr G 8 A11) := ((hf26 (m + 11) (by omega)).trans (ga19 ((m + 11)) (by omega) (by omega))).trans hm11
      have hc62 : M21 (m + 12) = some (sArr G 60 A12) := ((hf26 (m + 12) (by omega)).trans (ga19 ((m + 12)) (by omega) (by omega))).trans hm12
      have hc63 : M21 (m + 13) = some (sArr G 240 A13) := ((hf26 (m + 13) (by omega)).trans (ga19 ((m + 13)) (by omega) (by omega))).trans hm13
      have hc64 : M21 (m + 14) = some (sArr G 574 A14) := ((hf26 (m + 14) (by omega)).trans (ga19 ((m + 14)) (by omega) (by omega))).trans hm14
      have hc65 : M21 (m + 15) = some (sArr G 200 T2) := ((hf26 (m + 15) (by omega)).trans (ga19 ((m + 15)) (by omega) (by omega))).trans hm15
      have hc66 : M21 o = some (sArL G 1 g0) := (gb40 o (by omega)).trans hc11
      exact W.widen (by omega) (by omega) (hk _ _ _ _ _ (by omega) ⟨_, _, _, _, _, _, _, _, _, _, _, _, _, _, _, _, _, _, _, _, _, _, _, _, _, _, hc39, hc41, hc42, hc43, hc44, hc45, hc46, hc47, hc48, hc49, hc50, hc30, hc51, hc52, hc53, hc54, hc55, hc56, hc57, hc58, hc59, hc60, hc61, hc62, hc63, hc64, hc65, hc66, lF_s hlF, htp, hwr⟩ hV (lv_sub hl [2, 3, 4, 5, 6] rfl))
    · rw [ez32]
      exact (nx_fee_0_1 c9 c31).elim
    · rw [ez35]
      exact (nx_fee_0_2 c9 c34).elim
  · rw [ez13]
    refine lv_istore (lv' := [(5, .int (sI 2)), (0, .ref z), (1, .ref c), (2, .ref m), (3, .ref o), (4, .int (sI i))]) hx_ hb_ dL_law_2010 hl (by decide) rfl (fun ls hl => ?_)
    refine lv_aload_n hx_ hb_ dL_law_2012 rfl (lv_at hl 3 rfl) ?_
    refine lv_aload_n hx_ hb_ dL_law_2013 rfl (lv_at hl 1 rfl) ?_
    refine lv_iload hx_ hb_ dL_law_2014 (lv_at hl 5 rfl) ?_
    refine si_const S dL_law_2016 ?_
    refine si_add S dL_law_2017 ?_
    refine sc_sld S hV hX hzb (by omega) dL_law_2018 ?_
    refine lv_aload_n hx_ hb_ dL_law_2019 rfl (lv_at hl 1 rfl) ?_
    refine lv_iload hx_ hb_ dL_law_2020 (lv_at hl 5 rfl) ?_
    refine si_const S dL_law_2022 ?_
    refine si_add S dL_law_2023 ?_
    refine sc_sld S hV hX hzb (by omega) dL_law_2024 ?_
    refine lv_aload_n hx_ hb_ dL_law_2025 rfl (lv_at hl 1 rfl) ?_
    refine lv_iload hx_ hb_ dL_law_2026 (lv_at hl 5 rfl) ?_
    refine si_const S dL_law_2028 ?_
    refine si_add S dL_law_2029 ?_
    refine sc_sld S hV hX hzb (by omega) dL_law_2030 ?_
    have ga68 : ∀ x : Nat, m ≤ x → x < m + 16 → M1 x = M x := fun x u1 u2 => hf7 x (by omega) (by omega)
    have hc67 : M1 m = some (mO m th ch tn te sn nm wn) := (ga68 m (by omega) (by omega)).trans hm0
    have hc69 : M1 (m + 1) = some (sArr G 574 f) := (ga68 ((m + 1)) (by omega) (by omega)).trans hm1
    refine sk_Vl E hV (As := [.int (sI (lX xs (i + 1))), .int (sI (lX xs (i + 2))), .int (sI (lX xs (i + 3)))]) (rest := []) (kX11_fee l_ G b_ M1 N2 m th ch tn te sn nm wn f (lX xs (i + 1)) (lX xs (i + 2)) (lX xs (i + 3)) hc67 hc69 (hok) (⟨lX_r xs _, lX_r xs _, lX_r xs _⟩)) (cwV 3 S.2.2.2.2 gL_law_X11_fee rfl rfl rfl (by decide +kernel) ⟨Nat.le_of_ble_eq_true rfl, Nat.le_of_ble_eq_true rfl⟩) (ci := 9) hc67 rfl rfl rfl hl.1 (Nat.le_of_ble_eq_true rfl) dL_law_2031 (c1 := cc_ + 10) (s1 := ss_ + 60) ⟨⟨rfl, rfl⟩, by omega, by omega⟩ (fun z73 M70 N71 H locs hp72 hV => ?_)
    obtain ⟨hN74, hf75, hq76⟩ := hp72
    rw [hN74] at hV
    rcases hq76 with ⟨c77, ez78, hc79⟩ | ⟨c80, ez81, hc82⟩ | ⟨c83, ez84, hc85⟩
    · rw [ez78]
      exact (nx_fee_1_0 c12 c77).elim
    · rw [ez81]
      refine lv_lstore (lv' := [(6, .long (sL 0)), (5, .int (sI 2)), (0, .ref z), (1, .ref c), (2, .ref m), (3, .ref o), (4, .int (sI i))]) hx_ hb_ dL_law_2034 hl (by decide) rfl (fun ls hl => ?_)
      refine lv_aload_n hx_ hb_ dL_law_2036 rfl (lv_at hl 4 rfl) ?_
      refine sk_VP E hV (As := []) (rest := []) (kX11_thrown l_ G b_ M70 N2 m 2 ch tn te sn nm wn hc82) (cwV 0 S.2.2.2.2 gL_law_X11_thrown rfl rfl rfl (by decide +kernel) ⟨Nat.le_of_ble_eq_true rfl, Nat.le_of_ble_eq_true rfl⟩) (ci := 9) hc82 rfl rfl rfl hl.1 (Nat.le_of_ble_eq_true rfl) dL_law_2037 (c1 := cc_ + 10) (s1 := ss_ + 60) ⟨⟨rfl, rfl⟩, by omega, by omega⟩ (fun H locs hV => ?_)
      refine lv_iload hx_ hb_ dL_law_2040 (lv_at hl 1 rfl) ?_
      refine sb_eq (tgt := 2047) S dL_law_2042 (by decide) (by omega) (fun _ => ?_) (fun c86 => absurd c86 (by omega))
      refine lv_iload hx_ hb_ dL_law_2047 (lv_at hl 1 rfl) ?_
      refine sz_ne (tgt := 2063) S dL_law_2049 (by decide) (by omega) (fun _ => ?_) (fun c87 => absurd c87 (by omega))
      refine lv_goto (tgt := 2853) hx_ hb_ dL_law_2063 (by decide) ?_
      have gb89 : ∀ x : Nat, (x < m ∨ m + 16 ≤ x) → M70 x = M1 x := fun x u1 => hf75 x (by omega)
      have hc88 : M70 c = some (xO c kn ch) := ((gb89 c (by omega)).trans (hf7 c (by omega) (by omega))).trans hc0
      have hc90 : stC G M70 (c + 1) f := hst.fr (fun x q8 q9 => (gb89 x (by omega)).trans (hf7 x (by omega) (by omega)))
      have hc91 : triC G M70 (c + 16) := htr.fr (fun x q8 q9 => (gb89 x (by omega)).trans (hf7 x (by omega) (by omega)))
      have hc92 : kpC G M70 (c + 31) kb kn ch fs := hkp.fr (fun x q8 => (gb89 x (by omega)).trans (hf7 x (by omega) (by omega)))
      have hc93 : M70 (c + 32) = some (sObj 7 [.ref (c + 33), .int (sI tn), .int (sI te)]) := ((gb89 ((c + 32)) (by omega)).trans (hf7 (c + 32) (by omega) (by omega))).trans ht0
      have hc94 : M70 (c + 33) = some (sArr G 300 t) := ((gb89 ((c + 33)) (by omega)).trans (hf7 (c + 33) (by omega) (by omega))).trans ht1
      have hc95 : catC G M70 (c + 34) wc T := hct.fr (fun x q8 q9 => (gb89 x (by omega)).trans (hf7 x (by omega) (by omega)))
      have hc96 : orfC G M70 (c + 38) := hft.fr (fun x q8 q9 => (gb89 x (by omega)).trans (hf7 x (by omega) (by omega)))
      have hc97 : layC G M70 (c + 48) := hly.fr (fun x q8 q9 => (gb89 x (by omega)).trans (hf7 x (by omega) (by omega)))
      have hc98 : knoC G M70 (c + 54) := hc6.fr (fun x q8 q9 => gb89 x (by omega))
      have hc99 : excC G M70 (c + 57) := hex.fr (fun x q8 q9 => (gb89 x (by omega)).trans (hf7 x (by omega) (by omega)))
      have hc100 : M70 (m + 1) = some (sArr G 574 f) := (hf75 (m + 1) (by omega)).trans hc69
      have hc101 : svC G M70 (m + 2) ch fs := hsv.fr (fun x q8 q9 => (hf75 x (by omega)).trans (ga68 x (by omega) (by omega)))
      have hc102 : M70 (m + 3) = some (sArr G 300 t) := ((hf75 (m + 3) (by omega)).trans (ga68 ((m + 3)) (by omega) (by omega))).trans hm3
      have hc103 : M70 (m + 4) = some (sArr G 11 A4) := ((hf75 (m + 4) (by omega)).trans (ga68 ((m + 4)) (by omega) (by omega))).trans hm4
      have hc104 : M70 (m + 5) = some (sArr G 1024 A5) := ((hf75 (m + 5) (by omega)).trans (ga68 ((m + 5)) (by omega) (by omega))).trans hm5
      have hc105 : M70 (m + 6) = some (sArr G 1024 A6) := ((hf75 (m + 6) (by omega)).trans (ga68 ((m + 6)) (by omega) (by omega))).trans hm6
      have hc106 : M70 (m + 7) = some (sArr G 10 A7) := ((hf75 (m + 7) (by omega)).trans (ga68 ((m + 7)) (by omega) (by omega))).trans hm7
      have hc107 : M70 (m + 8) = some (sArr G 10 A8) := ((hf75 (m + 8) (by omega)).trans (ga68 ((m + 8)) (by omega) (by omega))).trans hm8
      have hc108 : M70 (m + 9) = some (sArr G 62 A9) := ((hf75 (m + 9) (by omega)).trans (ga68 ((m + 9)) (by omega) (by omega))).trans hm9
      have hc109 : M70 (m + 10) = some (sArr G 8 A10) := ((hf75 (m + 10) (by omega)).trans (ga68 ((m + 10)) (by omega) (by omega))).trans hm10
      have hc110 : M70 (m + 11) = some (sArr G 8 A11) := ((hf75 (m + 11) (by omega)).trans (ga68 ((m + 11)) (by omega) (by omega))).trans hm11
      have hc111 : M70 (m + 12) = some (sArr G 60 A12) := ((hf75 (m + 12) (by omega)).trans (ga68 ((m + 12)) (by omega) (by omega))).trans hm12
      have hc112 : M70 (m + 13) = some (sArr G 240 A13) := ((hf75 (m + 13) (by omega)).trans (ga68 ((m + 13)) (by omega) (by omega))).trans hm13
      have hc113 : M70 (m + 14) = some (sArr G 574 A14) := ((hf75 (m + 14) (by omega)).trans (ga68 ((m + 14)) (by omega) (by omega))).trans hm14
      have hc114 : M70 (m + 15) = some (sArr G 200 T2) := ((hf75 (m + 15) (by omega)).trans (ga68 ((m + 15)) (by omega) (by omega))).trans hm15
      have hc115 : M70 o = some (sArL G 1 g0) := (gb89 o (by omega)).trans hc14
      exact W.widen (by omega) (by omega) (hk _ _ _ _ _ (by omega) ⟨_, _, _, _, _, _, _, _, _, _, _, _, _, _, _, _, _, _, _, _, _, _, _, _, _, _, hc88, hc90, hc91, hc92, hc93, hc94, hc95, hc96, hc97, hc98, hc99, hc82, hc100, hc101, hc102, hc103, hc104, hc105, hc106, hc107, hc108, hc109, hc110, hc111, hc112, hc113, hc114, hc115, lF_s hlF, htp, hwr⟩ hV (lv_sub hl [2, 3, 4, 5, 6] rfl))
    · rw [ez84]
      exact (nx_fee_1_2 c12 c83).elim
  · rw [ez16]
    refine lv_istore (lv' := [(5, .int (sI 0)), (0, .ref z), (1, .ref c), (2, .ref m), (3, .ref o), (4, .int (sI i))]) hx_ hb_ dL_law_2010 hl (by decide) rfl (fun ls hl => ?_)
    refine lv_aload_n hx_ hb_ dL_law_2012 rfl (lv_at hl 3 rfl) ?_
    refine lv_aload_n hx_ hb_ dL_law_2013 rfl (lv_at hl 1 rfl) ?_
    refine lv_iload hx_ hb_ dL_law_2014 (lv_at hl 5 rfl) ?_
    refine si_const S dL_law_2016 ?_
    refine si_add S dL_law_2017 ?_
    refine sc_sld S hV hX hzb (by omega) dL_law_2018 ?_
    refine lv_aload_n hx_ hb_ dL_law_2019 rfl (lv_at hl 1 rfl) ?_
    refine lv_iload hx_ hb_ dL_law_2020 (lv_at hl 5 rfl) ?_
    refine si_const S dL_law_2022 ?_
    refine si_add S dL_law_2023 ?_
    refine sc_sld S hV hX hzb (by omega) dL_law_2024 ?_
    refine lv_aload_n hx_ hb_ dL_law_2025 rfl (lv_at hl 1 rfl) ?_
    refine lv_iload hx_ hb_ dL_law_2026 (lv_at hl 5 rfl) ?_
    refine si_const S dL_law_2028 ?_
    refine si_add S dL_law_2029 ?_
    refine sc_sld S hV hX hzb (by omega) dL_law_2030 ?_
    have ga117 : ∀ x : Nat, m ≤ x → x < m + 16 → M1 x = M x := fun x u1 u2 => hf7 x (by omega) (by omega)
    have hc116 : M1 m = some (mO m th ch tn te sn nm wn) := (ga117 m (by omega) (by omega)).trans hm0
    have hc118 : M1 (m + 1) = some (sArr G 574 f) := (ga117 ((m + 1)) (by omega) (by omega)).trans hm1
    refine sk_Vl E hV (As := [.int (sI (lX xs (i + 1))), .int (sI (lX xs (i + 2))), .int (sI (lX xs (i + 3)))]) (rest := []) (kX11_fee l_ G b_ M1 N2 m th ch tn te sn nm wn f (lX xs (i + 1)) (lX xs (i + 2)) (lX xs (i + 3)) hc116 hc118 (hok) (⟨lX_r xs _, lX_r xs _, lX_r xs _⟩)) (cwV 3 S.2.2.2.2 gL_law_X11_fee rfl rfl rfl (by decide +kernel) ⟨Nat.le_of_ble_eq_true rfl, Nat.le_of_ble_eq_true rfl⟩) (ci := 9) hc116 rfl rfl rfl hl.1 (Nat.le_of_ble_eq_true rfl) dL_law_2031 (c1 := cc_ + 10) (s1 := ss_ + 60) ⟨⟨rfl, rfl⟩, by omega, by omega⟩ (fun z122 M119 N120 H locs hp121 hV => ?_)
    obtain ⟨hN123, hf124, hq125⟩ := hp121
    rw [hN123] at hV
    rcases hq125 with ⟨c126, ez127, hc128⟩ | ⟨c129, ez130, hc131⟩ | ⟨c132, ez133, hc134⟩
    · rw [ez127]
      exact (nx_fee_2_0 c15 c126).elim
    · rw [ez130]
      exact (nx_fee_2_1 c15 c129).elim
    · rw [ez133]
      refine lv_lstore (lv' := [(6, .long (sL (isum (dayI (lX xs (i + 3)) - dayI (lX xs (i + 2)) + 1) (fdT f (lX xs (i + 1)) (dayI (lX xs (i + 2)) + 3652)) / 1000))), (5, .int (sI 0)), (0, .ref z), (1, .ref c), (2, .ref m), (3, .ref o), (4, .int (sI i))]) hx_ hb_ dL_law_2034 hl (by decide) rfl (fun ls hl => ?_)
      refine lv_aload_n hx_ hb_ dL_law_2036 rfl (lv_at hl 4 rfl) ?_
      refine sk_VP E hV (As := []) (rest := []) (kX11_thrown l_ G b_ M119 N2 m 0 ch tn te sn nm wn hc134) (cwV 0 S.2.2.2.2 gL_law_X11_thrown rfl rfl rfl (by decide +kernel) ⟨Nat.le_of_ble_eq_true rfl, Nat.le_of_ble_eq_true rfl⟩) (ci := 9) hc134 rfl rfl rfl hl.1 (Nat.le_of_ble_eq_true rfl) dL_law_2037 (c1 := cc_ + 10) (s1 := ss_ + 60) ⟨⟨rfl, rfl⟩, by omega, by omega⟩ (fun H locs hV => ?_)
      refine lv_iload hx_ hb_ dL_law_2040 (lv_at hl 1 rfl) ?_
      refine sb_eq (tgt := 2047) S dL_law_2042 (by decide) (by omega) (fun _ => ?_) (fun c135 => absurd c135 (by omega))
      refine lv_iload hx_ hb_ dL_law_2047 (lv_at hl 1 rfl) ?_
      refine sz_ne (tgt := 2063) S dL_law_2049 (by decide) (by omega) (fun c136 => absurd c136 (by omega)) (fun _ => ?_)
      refine lv_aload_n hx_ hb_ dL_law_2052 rfl (lv_at hl 5 rfl) ?_
      refine si_const S dL_law_2053 ?_
      have gb138 : ∀ x : Nat, (x < m ∨ m + 16 ≤ x) → M119 x = M1 x := fun x u1 => hf124 x (by omega)
      have hc137 : M119 o = some (sArL G 1 (iup g0 0 (isum (dayI (lX xs (i + 3)) - dayI (lX xs (i + 2)) + 1) (fdT f (lX xs (i + 1)) (dayI (lX xs (i + 2)) + 3652)) / 1000))) := (gb138 o (by omega)).trans hc17
      refine sc_lald S hK hV hc137 (by omega) dL_law_2054 ?_
      rw [show (iup g0 0 (isum (dayI (lX xs (i + 3)) - dayI (lX xs (i + 2)) + 1) (fdT f (lX xs (i + 1)) (dayI (lX xs (i + 2)) + 3652)) / 1000)) 0 = isum (dayI (lX xs (i + 3)) - dayI (lX xs (i + 2)) + 1) (fdT f (lX xs (i + 1)) (dayI (lX xs (i + 2)) + 3652)) / 1000 from if_pos rfl]
      refine lv_lload hx_ hb_ dL_law_2055 (lv_at hl 0 rfl) ?_
      refine sl_cmp0 S (rfl) dL_law_2057 ?_
      refine sz_eq (tgt := 2063) S dL_law_2058 (by decide) (by omega) (fun _ => ?_) (fun c139 => absurd c139 (by omega))
      refine lv_goto (tgt := 2853) hx_ hb_ dL_law_2063 (by decide) ?_
      have hc140 : M119 c = some (xO c kn ch) := ((gb138 c (by omega)).trans (hf7 c (by omega) (by omega))).trans hc0
      have hc141 : stC G M119 (c + 1) f := hst.fr (fun x q8 q9 => (gb138 x (by omega)).trans (hf7 x (by omega) (by omega)))
      have hc142 : triC G M119 (c + 16) := htr.fr (fun x q8 q9 => (gb138 x (by omega)).trans (hf7 x (by omega) (by omega)))
      have hc143 : kpC G M119 (c + 31) kb kn ch fs := hkp.fr (fun x q8 => (gb138 x (by omega)).trans (hf7 x (by omega) (by omega)))
      have hc144 : M119 (c + 32) = some (sObj 7 [.ref (c + 33), .int (sI tn), .int (sI te)]) := ((gb138 ((c + 32)) (by omega)).trans (hf7 (c + 32) (by omega) (by omega))).trans ht0
      have hc145 : M119 (c + 33) = some (sArr G 300 t) := ((gb138 ((c + 33)) (by omega)).trans (hf7 (c + 33) (by omega) (by omega))).trans ht1
      have hc146 : catC G M119 (c + 34) wc T := hct.fr (fun x q8 q9 => (gb138 x (by omega)).trans (hf7 x (by omega) (by omega)))
      have hc147 : orfC G M119 (c + 38) := hft.fr (fun x q8 q9 => (gb138 x (by omega)).trans (hf7 x (by omega) (by omega)))
      have hc148 : layC G M119 (c + 48) := hly.fr (fun x q8 q9 => (gb138 x (by omega)).trans (hf7 x (by omega) (by omega)))
      have hc149 : knoC G M119 (c + 54) := hc6.fr (fun x q8 q9 => gb138 x (by omega))
      have hc150 : excC G M119 (c + 57) := hex.fr (fun x q8 q9 => (gb138 x (by omega)).trans (hf7 x (by omega) (by omega)))
      have hc151 : M119 (m + 1) = some (sArr G 574 f) := (hf124 (m + 1) (by omega)).trans hc118
      have hc152 : svC G M119 (m + 2) ch fs := hsv.fr (fun x q8 q9 => (hf124 x (by omega)).trans (ga117 x (by omega) (by omega)))
      have hc153 : M119 (m + 3) = some (sArr G 300 t) := ((hf124 (m + 3) (by omega)).trans (ga117 ((m + 3)) (by omega) (by omega))).trans hm3
      have hc154 : M119 (m + 4) = some (sArr G 11 A4) := ((hf124 (m + 4) (by omega)).trans (ga117 ((m + 4)) (by omega) (by omega))).trans hm4
      have hc155 : M119 (m + 5) = some (sArr G 1024 A5) := ((hf124 (m + 5) (by omega)).trans (ga117 ((m + 5)) (by omega) (by omega))).trans hm5
      have hc156 : M119 (m + 6) = some (sArr G 1024 A6) := ((hf124 (m + 6) (by omega)).trans (ga117 ((m + 6)) (by omega) (by omega))).trans hm6
      have hc157 : M119 (m + 7) = some (sArr G 10 A7) := ((hf124 (m + 7) (by omega)).trans (ga117 ((m + 7)) (by omega) (by omega))).trans hm7
      have hc158 : M119 (m + 8) = some (sArr G 10 A8) := ((hf124 (m + 8) (by omega)).trans (ga117 ((m + 8)) (by omega) (by omega))).trans hm8
      have hc159 : M119 (m + 9) = some (sArr G 62 A9) := ((hf124 (m + 9) (by omega)).trans (ga117 ((m + 9)) (by omega) (by omega))).trans hm9
      have hc160 : M119 (m + 10) = some (sArr G 8 A10) := ((hf124 (m + 10) (by omega)).trans (ga117 ((m + 10)) (by omega) (by omega))).trans hm10
      have hc161 : M119 (m + 11) = some (sArr G 8 A11) := ((hf124 (m + 11) (by omega)).trans (ga117 ((m + 11)) (by omega) (by omega))).trans hm11
      have hc162 : M119 (m + 12) = some (sArr G 60 A12) := ((hf124 (m + 12) (by omega)).trans (ga117 ((m + 12)) (by omega) (by omega))).trans hm12
      have hc163 : M119 (m + 13) = some (sArr G 240 A13) := ((hf124 (m + 13) (by omega)).trans (ga117 ((m + 13)) (by omega) (by omega))).trans hm13
      have hc164 : M119 (m + 14) = some (sArr G 574 A14) := ((hf124 (m + 14) (by omega)).trans (ga117 ((m + 14)) (by omega) (by omega))).trans hm14
      have hc165 : M119 (m + 15) = some (sArr G 200 T2) := ((hf124 (m + 15) (by omega)).trans (ga117 ((m + 15)) (by omega) (by omega))).trans hm15
      exact W.widen (by omega) (by omega) (hk _ _ _ _ _ (by omega) ⟨_, _, _, _, _, _, _, _, _, _, _, _, _, _, _, _, _, _, _, _, _, _, _, _, _, _, hc140, hc141, hc142, hc143, hc144, hc145, hc146, hc147, hc148, hc149, hc150, hc134, hc151, hc152, hc153, hc154, hc155, hc156, hc157, hc158, hc159, hc160, hc161, hc162, hc163, hc164, hc165, hc137, lF_s hlF, htp, hwr⟩ hV (lv_sub hl [2, 3, 4, 5, 6] rfl))

theorem nx_inHand_0_1 {h : Int} {d : Int} (h1 : ¬ ((0 ≤ h ∧ h ≤ 6) ∧ isDt d)) (h2 : (0 ≤ h ∧ h ≤ 6) ∧ isDt d) : False := by
  first
  | omega
  | (simp_all; done)
  | (simp_all; omega)
theorem nx_inHand_1_0 {h : Int} {d : Int} (h1 : (0 ≤ h ∧ h ≤ 6) ∧ isDt d) (h2 : ¬ ((0 ≤ h ∧ h ≤ 6) ∧ isDt d)) : False := by
  first
  | omega
  | (simp_all; done)
  | (simp_all; omega)
set_option maxHeartbeats 4000000 in
set_option maxRecDepth 100000 in
theorem law_30 {p_ : Program} {l_ : Launch} {e_ : Env} {s_ : State} {m_ : MethodId} {args_ : Array Value} {below_ : List Frame} {meth_ : Method} {c_ : Code} {nm_ : String} {G : sG} {b_ : Nat} {M0 : sM} {N0 : Nat} {Q : State → Prop} (E : sE p_ l_ e_ room_1 s_ m_ args_ below_ meth_ c_ cL_law 9 wsL_law RL nm_ (some .boolean) G b_ M0 N0) (hF_ : xcF s_) (hlt : l_.stackTraces = false) {z L : Nat} {xs : Nat → Int32} (hX : va_X z L xs s_ s_.heap) (hzb : z < b_) {c m o kb : Nat} (hg : c + 60 ≤ m ∧ m + 16 ≤ o ∧ o < kb) {cc_ ss_ : Nat} (hcc : cc_ + 1170 ≤ room_1.cells ∧ ss_ + 14000 ≤ room_1.slots) {q i : Int} (hi : 0 ≤ i ∧ i + 6 ≤ L ∧ (L : Int) ≤ 3072) (hq : 0 ≤ q ∧ q ≤ 600) {M : sM} {N : Nat} (hkN : kb ≤ N) (hI : lI G M c m o kb q) {H : Heap} {locs : List Loc} {ls : Array Slot} (hV : sV G b_ M N s_ H locs) (hl : lv_has ls 9 [(0, .ref z), (1, .ref c), (2, .ref m), (3, .ref o), (4, .int (sI i))])
    (hk : ∀ (M1 : sM) (N1 : Nat) (H1 : Heap) (locs1 : List Loc) (ls1 : Array Slot), kb ≤ N1 → lI G M1 c m o kb (q + 1) → sV G b_ M1 N1 s_ H1 locs1 → lv_has ls1 9 [(0, .ref z), (1, .ref c), (2, .ref m), (3, .ref o), (4, .int (sI i))] → W p_ l_ e_ room_1 s_ m_ args_ below_ meth_ c_ H1 locs1 (cc_ + 1170) (ss_ + 14000) Q (F0 m_ 2853 ls1 [])) : W p_ l_ e_ room_1 s_ m_ args_ below_ meth_ c_ H locs cc_ ss_ Q (F0 m_ 2066 ls []) := by
  have S := E.1
  have hx_ := S.1
  have hb_ := S.2.1
  have hK := E.2.2.2.2.1
  have hI2 := hI
  obtain ⟨kn, ch, f, fs, tn, te, t, wc, wn, T, T2, th, sn, nm, g0, A4, A5, A6, A7, A8, A9, A10, A11, A12, A13, A14, hc0, hst, htr, hkp, ht0, ht1, hct, hft, hly, hkn, hex, hm0, hm1, hsv, hm3, hm4, hm5, hm6, hm7, hm8, hm9, hm10, hm11, hm12, hm13, hm14, hm15, ho9, hlF, htp, hwr⟩ := hI2
  have hok := hlF.1.1
  have hdI := hlF.1.2.1
  have hsL := hlF.1.2.2.1
  have hclk := hlF.1.2.2.2
  have hchr : 0 ≤ ch ∧ ch ≤ 15 := ⟨hkp.r.2.2.1, hkp.r.2.2.2⟩
  have htp1 := htp.1
  have htp2 := htp.2.1
  have hwq := wrQ_e hwr
  have hwq1 := hwq.1
  have hwq2 := hwq.2.1
  have kn0 := sOk_N hok
  refine lv_aload_n hx_ hb_ dL_law_2066 rfl (lv_at hl 1 rfl) ?_
  refine lv_aload_n hx_ hb_ dL_law_2067 rfl (lv_at hl 0 rfl) ?_
  refine lv_iload hx_ hb_ dL_law_2068 (lv_at hl 4 rfl) ?_
  refine si_const S dL_law_2070 ?_
  refine si_add S dL_law_2071 ?_
  refine sc_sld S hV hX hzb (by omega) dL_law_2072 ?_
  refine lv_aload_n hx_ hb_ dL_law_2073 rfl (lv_at hl 0 rfl) ?_
  refine lv_iload hx_ hb_ dL_law_2074 (lv_at hl 4 rfl) ?_
  refine si_const S dL_law_2076 ?_
  refine si_add S dL_law_2077 ?_
  refine sc_sld S hV hX hzb (by omega) dL_law_2078 ?_
  refine lv_aload_n hx_ hb_ dL_law_2079 rfl (lv_at hl 3 rfl) ?_
  refine yk_Si (hh := [(0, 10, 13, 19)]) E hF_ hV (As := [.ref c, .int (sI (lX xs (i + 1))), .int (sI (lX xs (i + 2))), .ref o]) (rest := []) (kL_inHand l_ G b_ M N o g0 c kn ch f (lX xs (i + 1)) (lX xs (i + 2)) hc0 hst hkn ho9 (hlt) (hok) (⟨lX_r xs _, lX_r xs _⟩) (by omega)) (vx_cwSW 4 S.2.2.2.2 gL_law_L_inHand rfl rfl rfl (by decide +kernel) ⟨Nat.le_of_ble_eq_true rfl, Nat.le_of_ble_eq_true rfl⟩) rfl rfl hl.1 (Nat.le_of_ble_eq_true rfl) dL_law_2080 (c1 := cc_ + 10) (s1 := ss_ + 60) ⟨⟨rfl, rfl⟩, by omega, by omega⟩ (fun z4 M1 N2 H locs hp3 hV => ?_)
  obtain ⟨hN5, hc6, hf7, hq8⟩ := hp3
  rcases hq8 with ⟨c9, ez10, hc11⟩ | ⟨c12, ez13, hc14⟩
  · rw [ez10]
    refine lv_istore (lv' := [(5, .int (sI 1)), (0, .ref z), (1, .ref c), (2, .ref m), (3, .ref o), (4, .int (sI i))]) hx_ hb_ dL_law_2083 hl (by decide) rfl (fun ls hl => ?_)
    refine lv_aload_n hx_ hb_ dL_law_2085 rfl (lv_at hl 3 rfl) ?_
    refine lv_aload_n hx_ hb_ dL_law_2086 rfl (lv_at hl 1 rfl) ?_
    refine lv_iload hx_ hb_ dL_law_2087 (lv_at hl 5 rfl) ?_
    refine si_const S dL_law_2089 ?_
    refine si_add S dL_law_2090 ?_
    refine sc_sld S hV hX hzb (by omega) dL_law_2091 ?_
    refine lv_aload_n hx_ hb_ dL_law_2092 rfl (lv_at hl 1 rfl) ?_
    refine lv_iload hx_ hb_ dL_law_2093 (lv_at hl 5 rfl) ?_
    refine si_const S dL_law_2095 ?_
    refine si_add S dL_law_2096 ?_
    refine sc_sld S hV hX hzb (by omega) dL_law_2097 ?_
    have ga16 : ∀ x : Nat, m ≤ x → x < m + 16 → M1 x = M x := fun x u1 u2 => hf7 x (by omega) (by omega)
    have hc15 : M1 m = some (mO m th ch tn te sn nm wn) := (ga16 m (by omega) (by omega)).trans hm0
    have hc17 : M1 (m + 1) = some (sArr G 574 f) := (ga16 ((m + 1)) (by omega) (by omega)).trans hm1
    refine sk_Vi E hV (As := [.int (sI (lX xs (i + 1))), .int (sI (lX xs (i + 2)))]) (rest := []) (kX11_inHand l_ G b_ M1 N2 m th ch tn te sn nm wn f (lX xs (i + 1)) (lX xs (i + 2)) hc15 hc17 (hok) (⟨lX_r xs _, lX_r xs _⟩)) (cwV 2 S.2.2.2.2 gL_law_X11_inHand rfl rfl rfl (by decide +kernel) ⟨Nat.le_of_ble_eq_true rfl, Nat.le_of_ble_eq_true rfl⟩) (ci := 9) hc15 rfl rfl rfl hl.1 (Nat.le_of_ble_eq_true rfl) dL_law_2098 (c1 := cc_ + 10) (s1 := ss_ + 60) ⟨⟨rfl, rfl⟩, by omega, by omega⟩ (fun z21 M18 N19 H locs hp20 hV => ?_)
    obtain ⟨hN22, hf23, hq24⟩ := hp20
    rw [hN22] at hV
    rcases hq24 with ⟨c25, ez26, hc27⟩ | ⟨c28, ez29, hc30⟩
    · rw [ez26]
      refine lv_istore (lv' := [(6, .int (sI 0)), (5, .int (sI 1)), (0, .ref z), (1, .ref c), (2, .ref m), (3, .ref o), (4, .int (sI i))]) hx_ hb_ dL_law_2101 hl (by decide) rfl (fun ls hl => ?_)
      refine lv_aload_n hx_ hb_ dL_law_2103 rfl (lv_at hl 4 rfl) ?_
      refine sk_VP E hV (As := []) (rest := []) (kX11_thrown l_ G b_ M18 N2 m 1 ch tn te sn nm wn hc27) (cwV 0 S.2.2.2.2 gL_law_X11_thrown rfl rfl rfl (by decide +kernel) ⟨Nat.le_of_ble_eq_true rfl, Nat.le_of_ble_eq_true rfl⟩) (ci := 9) hc27 rfl rfl rfl hl.1 (Nat.le_of_ble_eq_true rfl) dL_law_2104 (c1 := cc_ + 10) (s1 := ss_ + 60) ⟨⟨rfl, rfl⟩, by omega, by omega⟩ (fun H locs hV => ?_)
      refine lv_iload hx_ hb_ dL_law_2107 (lv_at hl 1 rfl) ?_
      refine sb_eq (tgt := 2114) S dL_law_2109 (by decide) (by omega) (fun _ => ?_) (fun c31 => absurd c31 (by omega))
      refine lv_iload hx_ hb_ dL_law_2114 (lv_at hl 1 rfl) ?_
      refine sz_ne (tgt := 2131) S dL_law_2116 (by decide) (by omega) (fun _ => ?_) (fun c32 => absurd c32 (by omega))
      refine lv_goto (tgt := 2853) hx_ hb_ dL_law_2131 (by decide) ?_
      have gb34 : ∀ x : Nat, (x < m ∨ m + 16 ≤ x) → M18 x = M1 x := fun x u1 => hf23 x (by omega)
      have hc33 : M18 c = some (xO c kn ch) := ((gb34 c (by omega)).trans (hf7 c (by omega) (by omega))).trans hc0
      have hc35 : stC G M18 (c + 1) f := hst.fr (fun x q8 q9 => (gb34 x (by omega)).trans (hf7 x (by omega) (by omega)))
      have hc36 : triC G M18 (c + 16) := htr.fr (fun x q8 q9 => (gb34 x (by omega)).trans (hf7 x (by omega) (by omega)))
      have hc37 : kpC G M18 (c + 31) kb kn ch fs := hkp.fr (fun x q8 => (gb34 x (by omega)).trans (hf7 x (by omega) (by omega)))
      have hc38 : M18 (c + 32) = some (sObj 7 [.ref (c + 33), .int (sI tn), .int (sI te)]) := ((gb34 ((c + 32)) (by omega)).trans (hf7 (c + 32) (by omega) (by omega))).trans ht0
      have hc39 : M18 (c + 33) = some (sArr G 300 t) := ((gb34 ((c + 33)) (by omega)).trans (hf7 (c + 33) (by omega) (by omega))).trans ht1
      have hc40 : catC G M18 (c + 34) wc T := hct.fr (fun x q8 q9 => (gb34 x (by omega)).trans (hf7 x (by omega) (by omega)))
      have hc41 : orfC G M18 (c + 38) := hft.fr (fun x q8 q9 => (gb34 x (by omega)).trans (hf7 x (by omega) (by omega)))
      have hc42 : layC G M18 (c + 48) := hly.fr (fun x q8 q9 => (gb34 x (by omega)).trans (hf7 x (by omega) (by omega)))
      have hc43 : knoC G M18 (c + 54) := hc6.fr (fun x q8 q9 => gb34 x (by omega))
      have hc44 : excC G M18 (c + 57) := hex.fr (fun x q8 q9 => (gb34 x (by omega)).trans (hf7 x (by omega) (by omega)))
      have hc45 : M18 (m + 1) = some (sArr G 574 f) := (hf23 (m + 1) (by omega)).trans hc17
      have hc46 : svC G M18 (m + 2) ch fs := hsv.fr (fun x q8 q9 => (hf23 x (by omega)).trans (ga16 x (by omega) (by omega)))
      have hc47 : M18 (m + 3) = some (sArr G 300 t) := ((hf23 (m + 3) (by omega)).trans (ga16 ((m + 3)) (by omega) (by omega))).trans hm3
      have hc48 : M18 (m + 4) = some (sArr G 11 A4) := ((hf23 (m + 4) (by omega)).trans (ga16 ((m + 4)) (by omega) (by omega))).trans hm4
      have hc49 : M18 (m + 5) = some (sArr G 1024 A5) := ((hf23 (m + 5) (by omega)).trans (ga16 ((m + 5)) (by omega) (by omega))).trans hm5
      have hc50 : M18 (m + 6) = some (sArr G 1024 A6) := ((hf23 (m + 6) (by omega)).trans (ga16 ((m + 6)) (by omega) (by omega))).trans hm6
      have hc51 : M18 (m + 7) = some (sArr G 10 A7) := ((hf23 (m + 7) (by omega)).trans (ga16 ((m + 7)) (by omega) (by omega))).trans hm7
      have hc52 : M18 (m + 8) = some (sArr G 10 A8) := ((hf23 (m + 8) (by omega)).trans (ga16 ((m + 8)) (by omega) (by omega))).trans hm8
      have hc53 : M18 (m + 9) = some (sArr G 62 A9) := ((hf23 (m + 9) (by omega)).trans (ga16 ((m + 9)) (by omega) (by omega))).trans hm9
      have hc54 : M18 (m + 10) = some (sArr G 8 A10) := ((hf23 (m + 10) (by omega)).trans (ga16 ((m + 10)) (by omega) (by omega))).trans hm10
      have hc55 : M18 (m + 11) = some (sArr G 8 A11) := ((hf23 (m + 11) (by omega)).trans (ga16 ((m + 11)) (by omega) (by omega))).trans hm11
      have hc56 : M18 (m + 12) = some (sArr G 60 A12) := ((hf23 (m + 12) (by omega)).trans (ga16 ((m + 12)) (by omega) (by omega))).trans hm12
      have hc57 : M18 (m + 13) = some (sArr G 240 A13) := ((hf23 (m + 13) (by omega)).trans (ga16 ((m + 13)) (by omega) (by omega))).trans hm13
      have hc58 : M18 (m + 14) = some (sArr G 574 A14) := ((hf23 (m + 14) (by omega)).trans (ga16 ((m + 14)) (by omega) (by omega))).trans hm14
      have hc59 : M18 (m + 15) = some (sArr G 200 T2) := ((hf23 (m + 15) (by omega)).trans (ga16 ((m + 15)) (by omega) (by omega))).trans hm15
      have hc60 : M18 o = some (sArL G 1 g0) := (gb34 o (by omega)).trans hc11
      exact W.widen (by omega) (by omega) (hk _ _ _ _ _ (by omega) ⟨_, _, _, _, _, _, _, _, _, _, _, _, _, _, _, _, _, _, _, _, _, _, _, _, _, _, hc33, hc35, hc36, hc37, hc38, hc39, hc40, hc41, hc42, hc43, hc44, hc27, hc45, hc46, hc47, hc48, hc49, hc50, hc51, hc52, hc53, hc54, hc55, hc56, hc57, hc58, hc59, hc60, lF_s hlF, htp, hwr⟩ hV (lv_sub hl [2, 3, 4, 5, 6] rfl))
    · rw [ez29]
      exact (nx_inHand_0_1 c9 c28).elim
  · rw [ez13]
    refine lv_istore (lv' := [(5, .int (sI 0)), (0, .ref z), (1, .ref c), (2, .ref m), (3, .ref o), (4, .int (sI i))]) hx_ hb_ dL_law_2083 hl (by decide) rfl (fun ls hl => ?_)
    refine lv_aload_n hx_ hb_ dL_law_2085 rfl (lv_at hl 3 rfl) ?_
    refine lv_aload_n hx_ hb_ dL_law_2086 rfl (lv_at hl 1 rfl) ?_
    refine lv_iload hx_ hb_ dL_law_2087 (lv_at hl 5 rfl) ?_
    refine si_const S dL_law_2089 ?_
    refine si_add S dL_law_2090 ?_
    refine sc_sld S hV hX hzb (by omega) dL_law_2091 ?_
    refine lv_aload_n hx_ hb_ dL_law_2092 rfl (lv_at hl 1 rfl) ?_
    refine lv_iload hx_ hb_ dL_law_2093 (lv_at hl 5 rfl) ?_
    refine si_const S dL_law_2095 ?_
    refine si_add S dL_law_2096 ?_
    refine sc_sld S hV hX hzb (by omega) dL_law_2097 ?_
    have ga62 : ∀ x : Nat, m ≤ x → x < m + 16 → M1 x = M x := fun x u1 u2 => hf7 x (by omega) (by omega)
    have hc61 : M1 m = some (mO m th ch tn te sn nm wn) := (ga62 m (by omega) (by omega)).trans hm0
    have hc63 : M1 (m + 1) = some (sArr G 574 f) := (ga62 ((m + 1)) (by omega) (by omega)).trans hm1
    refine sk_Vi E hV (As := [.int (sI (lX xs (i + 1))), .int (sI (lX xs (i + 2)))]) (rest := []) (kX11_inHand l_ G b_ M1 N2 m th ch tn te sn nm wn f (lX xs (i + 1)) (lX xs (i + 2)) hc61 hc63 (hok) (⟨lX_r xs _, lX_r xs _⟩)) (cwV 2 S.2.2.2.2 gL_law_X11_inHand rfl rfl rfl (by decide +kernel) ⟨Nat.le_of_ble_eq_true rfl, Nat.le_of_ble_eq_true rfl⟩) (ci := 9) hc61 rfl rfl rfl hl.1 (Nat.le_of_ble_eq_true rfl) dL_law_2098 (c1 := cc_ + 10) (s1 := ss_ + 60) ⟨⟨rfl, rfl⟩, by omega, by omega⟩ (fun z67 M64 N65 H locs hp66 hV => ?_)
    obtain ⟨hN68, hf69, hq70⟩ := hp66
    rw [hN68] at hV
    rcases hq70 with ⟨c71, ez72, hc73⟩ | ⟨c74, ez75, hc76⟩
    · rw [ez72]
      exact (nx_inHand_1_0 c12 c71).elim
    · rw [ez75]
      refine lv_istore (lv' := [(6, .int (sI (isum (f 568) (ihT f (lX xs (i + 1)) (dayI (lX xs (i + 2)) + 3652))))), (5, .int (sI 0)), (0, .ref z), (1, .ref c), (2, .ref m), (3, .ref o), (4, .int (sI i))]) hx_ hb_ dL_law_2101 hl (by decide) rfl (fun ls hl => ?_)
      refine lv_aload_n hx_ hb_ dL_law_2103 rfl (lv_at hl 4 rfl) ?_
      refine sk_VP E hV (As := []) (rest := []) (kX11_thrown l_ G b_ M64 N2 m 0 ch tn te sn nm wn hc76) (cwV 0 S.2.2.2.2 gL_law_X11_thrown rfl rfl rfl (by decide +kernel) ⟨Nat.le_of_ble_eq_true rfl, Nat.le_of_ble_eq_true rfl⟩) (ci := 9) hc76 rfl rfl rfl hl.1 (Nat.le_of_ble_eq_true rfl) dL_law_2104 (c1 := cc_ + 10) (s1 := ss_ + 60) ⟨⟨rfl, rfl⟩, by omega, by omega⟩ (fun H locs hV => ?_)
      refine lv_iload hx_ hb_ dL_law_2107 (lv_at hl 1 rfl) ?_
      refine sb_eq (tgt := 2114) S dL_law_2109 (by decide) (by omega) (fun _ => ?_) (fun c77 => absurd c77 (by omega))
      refine lv_iload hx_ hb_ dL_law_2114 (lv_at hl 1 rfl) ?_
      refine sz_ne (tgt := 2131) S dL_law_2116 (by decide) (by omega) (fun c78 => absurd c78 (by omega)) (fun _ => ?_)
      refine lv_aload_n hx_ hb_ dL_law_2119 rfl (lv_at hl 5 rfl) ?_
      refine si_const S dL_law_2120 ?_
      have gb80 : ∀ x : Nat, (x < m ∨ m + 16 ≤ x) → M64 x = M1 x := fun x u1 => hf69 x (by omega)
      have hc79 : M64 o = some (sArL G 1 (iup g0 0 (sW (isum (f 568) (ihT f (lX xs (i + 1)) (dayI (lX xs (i + 2)) + 3652)))))) := (gb80 o (by omega)).trans hc14
      refine sc_lald S hK hV hc79 (by omega) dL_law_2121 ?_
      rw [show (iup g0 0 (sW (isum (f 568) (ihT f (lX xs (i + 1)) (dayI (lX xs (i + 2)) + 3652))))) 0 = sW (isum (f 568) (ihT f (lX xs (i + 1)) (dayI (lX xs (i + 2)) + 3652))) from if_pos rfl]
      refine lv_iload hx_ hb_ dL_law_2122 (lv_at hl 0 rfl) ?_
      refine sl_i2w S dL_law_2124 ?_
      refine sl_cmp0 S (rfl) dL_law_2125 ?_
      refine sz_eq (tgt := 2131) S dL_law_2126 (by decide) (by omega) (fun _ => ?_) (fun c81 => absurd c81 (by omega))
      refine lv_goto (tgt := 2853) hx_ hb_ dL_law_2131 (by decide) ?_
      have hc82 : M64 c = some (xO c kn ch) := ((gb80 c (by omega)).trans (hf7 c (by omega) (by omega))).trans hc0
      have hc83 : stC G M64 (c + 1) f := hst.fr (fun x q8 q9 => (gb80 x (by omega)).trans (hf7 x (by omega) (by omega)))
      have hc84 : triC G M64 (c + 16) := htr.fr (fun x q8 q9 => (gb80 x (by omega)).trans (hf7 x (by omega) (by omega)))
      have hc85 : kpC G M64 (c + 31) kb kn ch fs := hkp.fr (fun x q8 => (gb80 x (by omega)).trans (hf7 x (by omega) (by omega)))
      have hc86 : M64 (c + 32) = some (sObj 7 [.ref (c + 33), .int (sI tn), .int (sI te)]) := ((gb80 ((c + 32)) (by omega)).trans (hf7 (c + 32) (by omega) (by omega))).trans ht0
      have hc87 : M64 (c + 33) = some (sArr G 300 t) := ((gb80 ((c + 33)) (by omega)).trans (hf7 (c + 33) (by omega) (by omega))).trans ht1
      have hc88 : catC G M64 (c + 34) wc T := hct.fr (fun x q8 q9 => (gb80 x (by omega)).trans (hf7 x (by omega) (by omega)))
      have hc89 : orfC G M64 (c + 38) := hft.fr (fun x q8 q9 => (gb80 x (by omega)).trans (hf7 x (by omega) (by omega)))
      have hc90 : layC G M64 (c + 48) := hly.fr (fun x q8 q9 => (gb80 x (by omega)).trans (hf7 x (by omega) (by omega)))
      have hc91 : knoC G M64 (c + 54) := hc6.fr (fun x q8 q9 => gb80 x (by omega))
      have hc92 : excC G M64 (c + 57) := hex.fr (fun x q8 q9 => (gb80 x (by omega)).trans (hf7 x (by omega) (by omega)))
      have hc93 : M64 (m + 1) = some (sArr G 574 f) := (hf69 (m + 1) (by omega)).trans hc63
      have hc94 : svC G M64 (m + 2) ch fs := hsv.fr (fun x q8 q9 => (hf69 x (by omega)).trans (ga62 x (by omega) (by omega)))
      have hc95 : M64 (m + 3) = some (sArr G 300 t) := ((hf69 (m + 3) (by omega)).trans (ga62 ((m + 3)) (by omega) (by omega))).trans hm3
      have hc96 : M64 (m + 4) = some (sArr G 11 A4) := ((hf69 (m + 4) (by omega)).trans (ga62 ((m + 4)) (by omega) (by omega))).trans hm4
      have hc97 : M64 (m + 5) = some (sArr G 1024 A5) := ((hf69 (m + 5) (by omega)).trans (ga62 ((m + 5)) (by omega) (by omega))).trans hm5
      have hc98 : M64 (m + 6) = some (sArr G 1024 A6) := ((hf69 (m + 6) (by omega)).trans (ga62 ((m + 6)) (by omega) (by omega))).trans hm6
      have hc99 : M64 (m + 7) = some (sArr G 10 A7) := ((hf69 (m + 7) (by omega)).trans (ga62 ((m + 7)) (by omega) (by omega))).trans hm7
      have hc100 : M64 (m + 8) = some (sArr G 10 A8) := ((hf69 (m + 8) (by omega)).trans (ga62 ((m + 8)) (by omega) (by omega))).trans hm8
      have hc101 : M64 (m + 9) = some (sArr G 62 A9) := ((hf69 (m + 9) (by omega)).trans (ga62 ((m + 9)) (by omega) (by omega))).trans hm9
      have hc102 : M64 (m + 10) = some (sArr G 8 A10) := ((hf69 (m + 10) (by omega)).trans (ga62 ((m + 10)) (by omega) (by omega))).trans hm10
      have hc103 : M64 (m + 11) = some (sArr G 8 A11) := ((hf69 (m + 11) (by omega)).trans (ga62 ((m + 11)) (by omega) (by omega))).trans hm11
      have hc104 : M64 (m + 12) = some (sArr G 60 A12) := ((hf69 (m + 12) (by omega)).trans (ga62 ((m + 12)) (by omega) (by omega))).trans hm12
      have hc105 : M64 (m + 13) = some (sArr G 240 A13) := ((hf69 (m + 13) (by omega)).trans (ga62 ((m + 13)) (by omega) (by omega))).trans hm13
      have hc106 : M64 (m + 14) = some (sArr G 574 A14) := ((hf69 (m + 14) (by omega)).trans (ga62 ((m + 14)) (by omega) (by omega))).trans hm14
      have hc107 : M64 (m + 15) = some (sArr G 200 T2) := ((hf69 (m + 15) (by omega)).trans (ga62 ((m + 15)) (by omega) (by omega))).trans hm15
      exact W.widen (by omega) (by omega) (hk _ _ _ _ _ (by omega) ⟨_, _, _, _, _, _, _, _, _, _, _, _, _, _, _, _, _, _, _, _, _, _, _, _, _, _, hc82, hc83, hc84, hc85, hc86, hc87, hc88, hc89, hc90, hc91, hc92, hc76, hc93, hc94, hc95, hc96, hc97, hc98, hc99, hc100, hc101, hc102, hc103, hc104, hc105, hc106, hc107, hc79, lF_s hlF, htp, hwr⟩ hV (lv_sub hl [2, 3, 4, 5, 6] rfl))

theorem nx_setLight_0_1 {s : Int} {f : sF} {l : Int} (h1 : ¬ (0 ≤ s ∧ s < f 568)) (h2 : (0 ≤ s ∧ s < f 568) ∧ ¬ (0 ≤ l ∧ l ≤ 100000)) : False := by
  first
  | omega
  | (simp_all; done)
  | (simp_all; omega)
theorem nx_setLight_0_2 {s : Int} {f : sF} {l : Int} (h1 : ¬ (0 ≤ s ∧ s < f 568)) (h2 : (0 ≤ s ∧ s < f 568) ∧ (0 ≤ l ∧ l ≤ 100000) ∧ ¬ ∀ y, 1900 ≤ y → y < 2200 → liI f s y ≤ l) : False := by
  first
  | omega
  | (simp_all; done)
  | (simp_all; omega)
theorem nx_setLight_0_3 {s : Int} {f : sF} {l : Int} (h1 : ¬ (0 ≤ s ∧ s < f 568)) (h2 : (0 ≤ s ∧ s < f 568) ∧ (0 ≤ l ∧ l ≤ 100000) ∧ ∀ y, 1900 ≤ y → y < 2200 → liI f s y ≤ l) : False := by
  first
  | omega
  | (simp_all; done)
  | (simp_all; omega)
theorem nx_setLight_1_0 {s : Int} {f : sF} {l : Int} (h1 : (0 ≤ s ∧ s < f 568) ∧ ¬ (0 ≤ l ∧ l ≤ 100000)) (h2 : ¬ (0 ≤ s ∧ s < f 568)) : False := by
  first
  | omega
  | (simp_all; done)
  | (simp_all; omega)
theorem nx_setLight_1_2 {s : Int} {f : sF} {l : Int} (h1 : (0 ≤ s ∧ s < f 568) ∧ ¬ (0 ≤ l ∧ l ≤ 100000)) (h2 : (0 ≤ s ∧ s < f 568) ∧ (0 ≤ l ∧ l ≤ 100000) ∧ ¬ ∀ y, 1900 ≤ y → y < 2200 → liI f s y ≤ l) : False := by
  first
  | omega
  | (simp_all; done)
  | (simp_all; omega)
theorem nx_setLight_1_3 {s : Int} {f : sF} {l : Int} (h1 : (0 ≤ s ∧ s < f 568) ∧ ¬ (0 ≤ l ∧ l ≤ 100000)) (h2 : (0 ≤ s ∧ s < f 568) ∧ (0 ≤ l ∧ l ≤ 100000) ∧ ∀ y, 1900 ≤ y → y < 2200 → liI f s y ≤ l) : False := by
  first
  | omega
  | (simp_all; done)
  | (simp_all; omega)
theorem nx_setLight_2_0 {s : Int} {f : sF} {l : Int} (h1 : (0 ≤ s ∧ s < f 568) ∧ (0 ≤ l ∧ l ≤ 100000) ∧ ¬ ∀ y, 1900 ≤ y → y < 2200 → liI f s y ≤ l) (h2 : ¬ (0 ≤ s ∧ s < f 568)) : False := by
  first
  | omega
  | (simp_all; done)
  | (simp_all; omega)
theorem nx_setLight_2_1 {s : Int} {f : sF} {l : Int} (h1 : (0 ≤ s ∧ s < f 568) ∧ (0 ≤ l ∧ l ≤ 100000) ∧ ¬ ∀ y, 1900 ≤ y → y < 2200 → liI f s y ≤ l) (h2 : (0 ≤ s ∧ s < f 568) ∧ ¬ (0 ≤ l ∧ l ≤ 100000)) : False := by
  first
  | omega
  | (simp_all; done)
  | (simp_all; omega)
theorem nx_setLight_2_3 {s : Int} {f : sF} {l : Int} (h1 : (0 ≤ s ∧ s < f 568) ∧ (0 ≤ l ∧ l ≤ 100000) ∧ ¬ ∀ y, 1900 ≤ y → y < 2200 → liI f s y ≤ l) (h2 : (0 ≤ s ∧ s < f 568) ∧ (0 ≤ l ∧ l ≤ 100000) ∧ ∀ y, 1900 ≤ y → y < 2200 → liI f s y ≤ l) : False := by
  first
  | omega
  | (simp_all; done)
  | (simp_all; omega)
theorem nx_setLight_3_0 {s : Int} {f : sF} {l : Int} (h1 : (0 ≤ s ∧ s < f 568) ∧ (0 ≤ l ∧ l ≤ 100000) ∧ ∀ y, 1900 ≤ y → y < 2200 → liI f s y ≤ l) (h2 : ¬ (0 ≤ s ∧ s < f 568)) : False := by
  first
  | omega
  | (simp_all; done)
  | (simp_all; omega)
theorem nx_setLight_3_1 {s : Int} {f : sF} {l : Int} (h1 : (0 ≤ s ∧ s < f 568) ∧ (0 ≤ l ∧ l ≤ 100000) ∧ ∀ y, 1900 ≤ y → y < 2200 → liI f s y ≤ l) (h2 : (0 ≤ s ∧ s < f 568) ∧ ¬ (0 ≤ l ∧ l ≤ 100000)) : False := by
  first
  | omega
  | (simp_all; done)
  | (simp_all; omega)
theorem nx_setLight_3_2 {s : Int} {f : sF} {l : Int} (h1 : (0 ≤ s ∧ s < f 568) ∧ (0 ≤ l ∧ l ≤ 100000) ∧ ∀ y, 1900 ≤ y → y < 2200 → liI f s y ≤ l) (h2 : (0 ≤ s ∧ s < f 568) ∧ (0 ≤ l ∧ l ≤ 100000) ∧ ¬ ∀ y, 1900 ≤ y → y < 2200 → liI f s y ≤ l) : False := by
  first
  | omega
  | (simp_all; done)
  | (simp_all; omega)
set_option maxHeartbeats 4000000 in
set_option maxRecDepth 100000 in
theorem law_31 {p_ : Program} {l_ : Launch} {e_ : Env} {s_ : State} {m_ : MethodId} {args_ : Array Value} {below_ : List Frame} {meth_ : Method} {c_ : Code} {nm_ : String} {G : sG} {b_ : Nat} {M0 : sM} {N0 : Nat} {Q : State → Prop} (E : sE p_ l_ e_ room_1 s_ m_ args_ below_ meth_ c_ cL_law 9 wsL_law RL nm_ (some .boolean) G b_ M0 N0) (hF_ : xcF s_) (hlt : l_.stackTraces = false) {z L : Nat} {xs : Nat → Int32} (hX : va_X z L xs s_ s_.heap) (hzb : z < b_) {c m o kb : Nat} (hg : c + 60 ≤ m ∧ m + 16 ≤ o ∧ o < kb) {cc_ ss_ : Nat} (hcc : cc_ + 1170 ≤ room_1.cells ∧ ss_ + 14000 ≤ room_1.slots) {q i : Int} (hi : 0 ≤ i ∧ i + 6 ≤ L ∧ (L : Int) ≤ 3072) (hq : 0 ≤ q ∧ q ≤ 600) {M : sM} {N : Nat} (hkN : kb ≤ N) (hI : lI G M c m o kb q) {H : Heap} {locs : List Loc} {ls : Array Slot} (hV : sV G b_ M N s_ H locs) (hl : lv_has ls 9 [(0, .ref z), (1, .ref c), (2, .ref m), (3, .ref o), (4, .int (sI i))])
    (hk : ∀ (M1 : sM) (N1 : Nat) (H1 : Heap) (locs1 : List Loc) (ls1 : Array Slot), kb ≤ N1 → lI G M1 c m o kb (q + 1) → sV G b_ M1 N1 s_ H1 locs1 → lv_has ls1 9 [(0, .ref z), (1, .ref c), (2, .ref m), (3, .ref o), (4, .int (sI i))] → W p_ l_ e_ room_1 s_ m_ args_ below_ meth_ c_ H1 locs1 (cc_ + 1170) (ss_ + 14000) Q (F0 m_ 2853 ls1 [])) : W p_ l_ e_ room_1 s_ m_ args_ below_ meth_ c_ H locs cc_ ss_ Q (F0 m_ 2134 ls []) := by
  have S := E.1
  have hx_ := S.1
  have hb_ := S.2.1
  have hK := E.2.2.2.2.1
  have hI2 := hI
  obtain ⟨kn, ch, f, fs, tn, te, t, wc, wn, T, T2, th, sn, nm, g0, A4, A5, A6, A7, A8, A9, A10, A11, A12, A13, A14, hc0, hst, htr, hkp, ht0, ht1, hct, hft, hly, hkn, hex, hm0, hm1, hsv, hm3, hm4, hm5, hm6, hm7, hm8, hm9, hm10, hm11, hm12, hm13, hm14, hm15, ho9, hlF, htp, hwr⟩ := hI2
  have hok := hlF.1.1
  have hdI := hlF.1.2.1
  have hsL := hlF.1.2.2.1
  have hclk := hlF.1.2.2.2
  have hchr : 0 ≤ ch ∧ ch ≤ 15 := ⟨hkp.r.2.2.1, hkp.r.2.2.2⟩
  have htp1 := htp.1
  have htp2 := htp.2.1
  have hwq := wrQ_e hwr
  have hwq1 := hwq.1
  have hwq2 := hwq.2.1
  have kn0 := sOk_N hok
  refine lv_aload_n hx_ hb_ dL_law_2134 rfl (lv_at hl 1 rfl) ?_
  refine lv_aload_n hx_ hb_ dL_law_2135 rfl (lv_at hl 0 rfl) ?_
  refine lv_iload hx_ hb_ dL_law_2136 (lv_at hl 4 rfl) ?_
  refine si_const S dL_law_2138 ?_
  refine si_add S dL_law_2139 ?_
  refine sc_sld S hV hX hzb (by omega) dL_law_2140 ?_
  refine lv_aload_n hx_ hb_ dL_law_2141 rfl (lv_at hl 0 rfl) ?_
  refine lv_iload hx_ hb_ dL_law_2142 (lv_at hl 4 rfl) ?_
  refine si_const S dL_law_2144 ?_
  refine si_add S dL_law_2145 ?_
  refine sc_sld S hV hX hzb (by omega) dL_law_2146 ?_
  refine lv_aload_n hx_ hb_ dL_law_2147 rfl (lv_at hl 3 rfl) ?_
  refine yk_Si (hh := [(0, 10, 13, 25), (0, 10, 17, 19), (0, 10, 21, 13)]) E hF_ hV (As := [.ref c, .int (sI (lX xs (i + 1))), .int (sI (lX xs (i + 2))), .ref o]) (rest := []) (kL_setLight l_ G b_ M N o g0 c kn ch f kb fs (lX xs (i + 1)) (lX xs (i + 2)) hc0 hst hkp ho9 (hlt) (hok) (by omega) (by omega) (⟨lX_r xs _, lX_r xs _⟩) (by omega) (by omega)) (vx_cwSW 4 S.2.2.2.2 gL_law_L_setLight rfl rfl rfl (by decide +kernel) ⟨Nat.le_of_ble_eq_true rfl, Nat.le_of_ble_eq_true rfl⟩) rfl rfl hl.1 (Nat.le_of_ble_eq_true rfl) dL_law_2148 (c1 := cc_ + 25) (s1 := ss_ + 3000) ⟨⟨rfl, rfl⟩, by omega, by omega⟩ (fun z4 M1 N2 H locs hp3 hV => ?_)
  obtain ⟨kn15, hN6, hf7, hq8⟩ := hp3
  rcases hq8 with ⟨c9, ez10, hc11, hc12, hc13, hc14⟩ | ⟨c15, ez16, hc17, hc18, hc19, hc20⟩ | ⟨c21, ez22, hc23, hc24, hc25, hc26⟩ | ⟨c27, ez28, hc29, hc30, hc31, hc32⟩
  · rw [ez10]
    refine lv_istore (lv' := [(5, .int (sI 1)), (0, .ref z), (1, .ref c), (2, .ref m), (3, .ref o), (4, .int (sI i))]) hx_ hb_ dL_law_2151 hl (by decide) rfl (fun ls hl => ?_)
    refine lv_aload_n hx_ hb_ dL_law_2153 rfl (lv_at hl 3 rfl) ?_
    refine lv_aload_n hx_ hb_ dL_law_2154 rfl (lv_at hl 1 rfl) ?_
    refine lv_iload hx_ hb_ dL_law_2155 (lv_at hl 5 rfl) ?_
    refine si_const S dL_law_2157 ?_
    refine si_add S dL_law_2158 ?_
    refine sc_sld S hV hX hzb (by omega) dL_law_2159 ?_
    refine lv_aload_n hx_ hb_ dL_law_2160 rfl (lv_at hl 1 rfl) ?_
    refine lv_iload hx_ hb_ dL_law_2161 (lv_at hl 5 rfl) ?_
    refine si_const S dL_law_2163 ?_
    refine si_add S dL_law_2164 ?_
    refine sc_sld S hV hX hzb (by omega) dL_law_2165 ?_
    have ga34 : ∀ x : Nat, m ≤ x → x < m + 16 → M1 x = M x := fun x u1 u2 => hf7 x (by omega) (by omega) (by omega) (by omega) (by omega)
    have hc33 : M1 m = some (mO m th ch tn te sn nm wn) := (ga34 m (by omega) (by omega)).trans hm0
    have hc35 : M1 (m + 1) = some (sArr G 574 f) := (ga34 ((m + 1)) (by omega) (by omega)).trans hm1
    have hc36 : svC G M1 (m + 2) ch fs := hsv.fr (fun x q8 q9 => ga34 x (by omega) (by omega))
    refine sk_Vi E hV (As := [.int (sI (lX xs (i + 1))), .int (sI (lX xs (i + 2)))]) (rest := []) (kX11_setLight l_ G b_ M1 N2 m th ch tn te sn nm wn f fs (lX xs (i + 1)) (lX xs (i + 2)) hc33 hc35 hc36 (hok) (hchr) (⟨lX_r xs _, lX_r xs _⟩)) (cwV 2 S.2.2.2.2 gL_law_X11_setLight rfl rfl rfl (by decide +kernel) ⟨Nat.le_of_ble_eq_true rfl, Nat.le_of_ble_eq_true rfl⟩) (ci := 9) hc33 rfl rfl rfl hl.1 (Nat.le_of_ble_eq_true rfl) dL_law_2166 (c1 := cc_ + 25) (s1 := ss_ + 3000) ⟨⟨rfl, rfl⟩, by omega, by omega⟩ (fun z40 M37 N38 H locs hp39 hV => ?_)
    obtain ⟨hN41, hf42, hq43⟩ := hp39
    rw [hN41] at hV
    rcases hq43 with ⟨c44, ez45, hc46, hc47, hc48⟩ | ⟨c49, ez50, hc51, hc52, hc53⟩ | ⟨c54, ez55, hc56, hc57, hc58⟩ | ⟨c59, ez60, hc61, hc62, hc63⟩
    · rw [ez45]
      refine lv_istore (lv' := [(6, .int (sI 0)), (5, .int (sI 1)), (0, .ref z), (1, .ref c), (2, .ref m), (3, .ref o), (4, .int (sI i))]) hx_ hb_ dL_law_2169 hl (by decide) rfl (fun ls hl => ?_)
      refine lv_aload_n hx_ hb_ dL_law_2171 rfl (lv_at hl 4 rfl) ?_
      refine sk_VP E hV (As := []) (rest := []) (kX11_thrown l_ G b_ M37 N2 m 1 ch tn te sn nm wn hc46) (cwV 0 S.2.2.2.2 gL_law_X11_thrown rfl rfl rfl (by decide +kernel) ⟨Nat.le_of_ble_eq_true rfl, Nat.le_of_ble_eq_true rfl⟩) (ci := 9) hc46 rfl rfl rfl hl.1 (Nat.le_of_ble_eq_true rfl) dL_law_2172 (c1 := cc_ + 25) (s1 := ss_ + 3000) ⟨⟨rfl, rfl⟩, by omega, by omega⟩ (fun H locs hV => ?_)
      refine lv_iload hx_ hb_ dL_law_2175 (lv_at hl 1 rfl) ?_
      refine sb_eq (tgt := 2182) S dL_law_2177 (by decide) (by omega) (fun _ => ?_) (fun c64 => absurd c64 (by omega))
      refine lv_iload hx_ hb_ dL_law_2182 (lv_at hl 1 rfl) ?_
      refine sz_ne (tgt := 2199) S dL_law_2184 (by decide) (by omega) (fun _ => ?_) (fun c65 => absurd c65 (by omega))
      refine lv_goto (tgt := 2853) hx_ hb_ dL_law_2199 (by decide) ?_
      have gb67 : ∀ x : Nat, (x < m ∨ m + 16 ≤ x) → M37 x = M1 x := fun x u1 => hf42 x (by omega) (by omega) (by omega)
      have hc66 : M37 c = some (xO c kn15 ch) := (gb67 c (by omega)).trans hc11
      have hc68 : stC G M37 (c + 1) f := hc12.fr (fun x q8 q9 => gb67 x (by omega))
      have hc69 : triC G M37 (c + 16) := htr.fr (fun x q8 q9 => (gb67 x (by omega)).trans (hf7 x (by omega) (by omega) (by omega) (by omega) (by omega)))
      have hc70 : kpC G M37 (c + 31) kb kn15 ch fs := hc13.fr (fun x q8 => gb67 x (by omega))
      have hc71 : M37 (c + 32) = some (sObj 7 [.ref (c + 33), .int (sI tn), .int (sI te)]) := ((gb67 ((c + 32)) (by omega)).trans (hf7 (c + 32) (by omega) (by omega) (by omega) (by omega) (by omega))).trans ht0
      have hc72 : M37 (c + 33) = some (sArr G 300 t) := ((gb67 ((c + 33)) (by omega)).trans (hf7 (c + 33) (by omega) (by omega) (by omega) (by omega) (by omega))).trans ht1
      have hc73 : catC G M37 (c + 34) wc T := hct.fr (fun x q8 q9 => (gb67 x (by omega)).trans (hf7 x (by omega) (by omega) (by omega) (by omega) (by omega)))
      have hc74 : orfC G M37 (c + 38) := hft.fr (fun x q8 q9 => (gb67 x (by omega)).trans (hf7 x (by omega) (by omega) (by omega) (by omega) (by omega)))
      have hc75 : layC G M37 (c + 48) := hly.fr (fun x q8 q9 => (gb67 x (by omega)).trans (hf7 x (by omega) (by omega) (by omega) (by omega) (by omega)))
      have hc76 : knoC G M37 (c + 54) := hkn.fr (fun x q8 q9 => (gb67 x (by omega)).trans (hf7 x (by omega) (by omega) (by omega) (by omega) (by omega)))
      have hc77 : excC G M37 (c + 57) := hex.fr (fun x q8 q9 => (gb67 x (by omega)).trans (hf7 x (by omega) (by omega) (by omega) (by omega) (by omega)))
      have hc78 : M37 (m + 3) = some (sArr G 300 t) := ((hf42 (m + 3) (by omega) (by omega) (by omega)).trans (ga34 ((m + 3)) (by omega) (by omega))).trans hm3
      have hc79 : M37 (m + 4) = some (sArr G 11 A4) := ((hf42 (m + 4) (by omega) (by omega) (by omega)).trans (ga34 ((m + 4)) (by omega) (by omega))).trans hm4
      have hc80 : M37 (m + 5) = some (sArr G 1024 A5) := ((hf42 (m + 5) (by omega) (by omega) (by omega)).trans (ga34 ((m + 5)) (by omega) (by omega))).trans hm5
      have hc81 : M37 (m + 6) = some (sArr G 1024 A6) := ((hf42 (m + 6) (by omega) (by omega) (by omega)).trans (ga34 ((m + 6)) (by omega) (by omega))).trans hm6
      have hc82 : M37 (m + 7) = some (sArr G 10 A7) := ((hf42 (m + 7) (by omega) (by omega) (by omega)).trans (ga34 ((m + 7)) (by omega) (by omega))).trans hm7
      have hc83 : M37 (m + 8) = some (sArr G 10 A8) := ((hf42 (m + 8) (by omega) (by omega) (by omega)).trans (ga34 ((m + 8)) (by omega) (by omega))).trans hm8
      have hc84 : M37 (m + 9) = some (sArr G 62 A9) := ((hf42 (m + 9) (by omega) (by omega) (by omega)).trans (ga34 ((m + 9)) (by omega) (by omega))).trans hm9
      have hc85 : M37 (m + 10) = some (sArr G 8 A10) := ((hf42 (m + 10) (by omega) (by omega) (by omega)).trans (ga34 ((m + 10)) (by omega) (by omega))).trans hm10
      have hc86 : M37 (m + 11) = some (sArr G 8 A11) := ((hf42 (m + 11) (by omega) (by omega) (by omega)).trans (ga34 ((m + 11)) (by omega) (by omega))).trans hm11
      have hc87 : M37 (m + 12) = some (sArr G 60 A12) := ((hf42 (m + 12) (by omega) (by omega) (by omega)).trans (ga34 ((m + 12)) (by omega) (by omega))).trans hm12
      have hc88 : M37 (m + 13) = some (sArr G 240 A13) := ((hf42 (m + 13) (by omega) (by omega) (by omega)).trans (ga34 ((m + 13)) (by omega) (by omega))).trans hm13
      have hc89 : M37 (m + 14) = some (sArr G 574 A14) := ((hf42 (m + 14) (by omega) (by omega) (by omega)).trans (ga34 ((m + 14)) (by omega) (by omega))).trans hm14
      have hc90 : M37 (m + 15) = some (sArr G 200 T2) := ((hf42 (m + 15) (by omega) (by omega) (by omega)).trans (ga34 ((m + 15)) (by omega) (by omega))).trans hm15
      have hc91 : M37 o = some (sArL G 1 g0) := (gb67 o (by omega)).trans hc14
      exact W.widen (by omega) (by omega) (hk _ _ _ _ _ (by omega) ⟨_, _, _, _, _, _, _, _, _, _, _, _, _, _, _, _, _, _, _, _, _, _, _, _, _, _, hc66, hc68, hc69, hc70, hc71, hc72, hc73, hc74, hc75, hc76, hc77, hc46, hc47, hc48, hc78, hc79, hc80, hc81, hc82, hc83, hc84, hc85, hc86, hc87, hc88, hc89, hc90, hc91, lF_s hlF, htp, hwr⟩ hV (lv_sub hl [2, 3, 4, 5, 6] rfl))
    · rw [ez50]
      exact (nx_setLight_0_1 c9 c49).elim
    · rw [ez55]
      exact (nx_setLight_0_2 c9 c54).elim
    · rw [ez60]
      exact (nx_setLight_0_3 c9 c59).elim
  · rw [ez16]
    refine lv_istore (lv' := [(5, .int (sI 2)), (0, .ref z), (1, .ref c), (2, .ref m), (3, .ref o), (4, .int (sI i))]) hx_ hb_ dL_law_2151 hl (by decide) rfl (fun ls hl => ?_)
    refine lv_aload_n hx_ hb_ dL_law_2153 rfl (lv_at hl 3 rfl) ?_
    refine lv_aload_n hx_ hb_ dL_law_2154 rfl (lv_at hl 1 rfl) ?_
    refine lv_iload hx_ hb_ dL_law_2155 (lv_at hl 5 rfl) ?_
    refine si_const S dL_law_2157 ?_
    refine si_add S dL_law_2158 ?_
    refine sc_sld S hV hX hzb (by omega) dL_law_2159 ?_
    refine lv_aload_n hx_ hb_ dL_law_2160 rfl (lv_at hl 1 rfl) ?_
    refine lv_iload hx_ hb_ dL_law_2161 (lv_at hl 5 rfl) ?_
    refine si_const S dL_law_2163 ?_
    refine si_add S dL_law_2164 ?_
    refine sc_sld S hV hX hzb (by omega) dL_law_2165 ?_
    have ga93 : ∀ x : Nat, m ≤ x → x < m + 16 → M1 x = M x := fun x u1 u2 => hf7 x (by omega) (by omega) (by omega) (by omega) (by omega)
    have hc92 : M1 m = some (mO m th ch tn te sn nm wn) := (ga93 m (by omega) (by omega)).trans hm0
    have hc94 : M1 (m + 1) = some (sArr G 574 f) := (ga93 ((m + 1)) (by omega) (by omega)).trans hm1
    have hc95 : svC G M1 (m + 2) ch fs := hsv.fr (fun x q8 q9 => ga93 x (by omega) (by omega))
    refine sk_Vi E hV (As := [.int (sI (lX xs (i + 1))), .int (sI (lX xs (i + 2)))]) (rest := []) (kX11_setLight l_ G b_ M1 N2 m th ch tn te sn nm wn f fs (lX xs (i + 1)) (lX xs (i + 2)) hc92 hc94 hc95 (hok) (hchr) (⟨lX_r xs _, lX_r xs _⟩)) (cwV 2 S.2.2.2.2 gL_law_X11_setLight rfl rfl rfl (by decide +kernel) ⟨Nat.le_of_ble_eq_true rfl, Nat.le_of_ble_eq_true rfl⟩) (ci := 9) hc92 rfl rfl rfl hl.1 (Nat.le_of_ble_eq_true rfl) dL_law_2166 (c1 := cc_ + 25) (s1 := ss_ + 3000) ⟨⟨rfl, rfl⟩, by omega, by omega⟩ (fun z99 M96 N97 H locs hp98 hV => ?_)
    obtain ⟨hN100, hf101, hq102⟩ := hp98
    rw [hN100] at hV
    rcases hq102 with ⟨c103, ez104, hc105, hc106, hc107⟩ | ⟨c108, ez109, hc110, hc111, hc112⟩ | ⟨c113, ez114, hc115, hc116, hc117⟩ | ⟨c118, ez119, hc120, hc121, hc122⟩
    · rw [ez104]
      exact (nx_setLight_1_0 c15 c103).elim
    · rw [ez109]
      refine lv_istore (lv' := [(6, .int (sI 0)), (5, .int (sI 2)), (0, .ref z), (1, .ref c), (2, .ref m), (3, .ref o), (4, .int (sI i))]) hx_ hb_ dL_law_2169 hl (by decide) rfl (fun ls hl => ?_)
      refine lv_aload_n hx_ hb_ dL_law_2171 rfl (lv_at hl 4 rfl) ?_
      refine sk_VP E hV (As := []) (rest := []) (kX11_thrown l_ G b_ M96 N2 m 2 ch tn te sn nm wn hc110) (cwV 0 S.2.2.2.2 gL_law_X11_thrown rfl rfl rfl (by decide +kernel) ⟨Nat.le_of_ble_eq_true rfl, Nat.le_of_ble_eq_true rfl⟩) (ci := 9) hc110 rfl rfl rfl hl.1 (Nat.le_of_ble_eq_true rfl) dL_law_2172 (c1 := cc_ + 25) (s1 := ss_ + 3000) ⟨⟨rfl, rfl⟩, by omega, by omega⟩ (fun H locs hV => ?_)
      refine lv_iload hx_ hb_ dL_law_2175 (lv_at hl 1 rfl) ?_
      refine sb_eq (tgt := 2182) S dL_law_2177 (by decide) (by omega) (fun _ => ?_) (fun c123 => absurd c123 (by omega))
      refine lv_iload hx_ hb_ dL_law_2182 (lv_at hl 1 rfl) ?_
      refine sz_ne (tgt := 2199) S dL_law_2184 (by decide) (by omega) (fun _ => ?_) (fun c124 => absurd c124 (by omega))
      refine lv_goto (tgt := 2853) hx_ hb_ dL_law_2199 (by decide) ?_
      have gb126 : ∀ x : Nat, (x < m ∨ m + 16 ≤ x) → M96 x = M1 x := fun x u1 => hf101 x (by omega) (by omega) (by omega)
      have hc125 : M96 c = some (xO c kn15 ch) := (gb126 c (by omega)).trans hc17
      have hc127 : stC G M96 (c + 1) f := hc18.fr (fun x q8 q9 => gb126 x (by omega))
      have hc128 : triC G M96 (c + 16) := htr.fr (fun x q8 q9 => (gb126 x (by omega)).trans (hf7 x (by omega) (by omega) (by omega) (by omega) (by omega)))
      have hc129 : kpC G M96 (c + 31) kb kn15 ch fs := hc19.fr (fun x q8 => gb126 x (by omega))
      have hc130 : M96 (c + 32) = some (sObj 7 [.ref (c + 33), .int (sI tn), .int (sI te)]) := ((gb126 ((c + 32)) (by omega)).trans (hf7 (c + 32) (by omega) (by omega) (by omega) (by omega) (by omega))).trans ht0
      have hc131 : M96 (c + 33) = some (sArr G 300 t) := ((gb126 ((c + 33)) (by omega)).trans (hf7 (c + 33) (by omega) (by omega) (by omega) (by omega) (by omega))).trans ht1
      have hc132 : catC G M96 (c + 34) wc T := hct.fr (fun x q8 q9 => (gb126 x (by omega)).trans (hf7 x (by omega) (by omega) (by omega) (by omega) (by omega)))
      have hc133 : orfC G M96 (c + 38) := hft.fr (fun x q8 q9 => (gb126 x (by omega)).trans (hf7 x (by omega) (by omega) (by omega) (by omega) (by omega)))
      have hc134 : layC G M96 (c + 48) := hly.fr (fun x q8 q9 => (gb126 x (by omega)).trans (hf7 x (by omega) (by omega) (by omega) (by omega) (by omega)))
      have hc135 : knoC G M96 (c + 54) := hkn.fr (fun x q8 q9 => (gb126 x (by omega)).trans (hf7 x (by omega) (by omega) (by omega) (by omega) (by omega)))
      have hc136 : excC G M96 (c + 57) := hex.fr (fun x q8 q9 => (gb126 x (by omega)).trans (hf7 x (by omega) (by omega) (by omega) (by omega) (by omega)))
      have hc137 : M96 (m + 3) = some (sArr G 300 t) := ((hf101 (m + 3) (by omega) (by omega) (by omega)).trans (ga93 ((m + 3)) (by omega) (by omega))).trans hm3
      have hc138 : M96 (m + 4) = some (sArr G 11 A4) := ((hf101 (m + 4) (by omega) (by omega) (by omega)).trans (ga93 ((m + 4)) (by omega) (by omega))).trans hm4
      have hc139 : M96 (m + 5) = some (sArr G 1024 A5) := ((hf101 (m + 5) (by omega) (by omega) (by omega)).trans (ga93 ((m + 5)) (by omega) (by omega))).trans hm5
      have hc140 : M96 (m + 6) = some (sArr G 1024 A6) := ((hf101 (m + 6) (by omega) (by omega) (by omega)).trans (ga93 ((m + 6)) (by omega) (by omega))).trans hm6
      have hc141 : M96 (m + 7) = some (sArr G 10 A7) := ((hf101 (m + 7) (by omega) (by omega) (by omega)).trans (ga93 ((m + 7)) (by omega) (by omega))).trans hm7
      have hc142 : M96 (m + 8) = some (sArr G 10 A8) := ((hf101 (m + 8) (by omega) (by omega) (by omega)).trans (ga93 ((m + 8)) (by omega) (by omega))).trans hm8
      have hc143 : M96 (m + 9) = some (sArr G 62 A9) := ((hf101 (m + 9) (by omega) (by omega) (by omega)).trans (ga93 ((m + 9)) (by omega) (by omega))).trans hm9
      have hc144 : M96 (m + 10) = some (sArr G 8 A10) := ((hf101 (m + 10) (by omega) (by omega) (by omega)).trans (ga93 ((m + 10)) (by omega) (by omega))).trans hm10
      have hc145 : M96 (m + 11) = some (sArr G 8 A11) := ((hf101 (m + 11) (by omega) (by omega) (by omega)).trans (ga93 ((m + 11)) (by omega) (by omega))).trans hm11
      have hc146 : M96 (m + 12) = some (sArr G 60 A12) := ((hf101 (m + 12) (by omega) (by omega) (by omega)).trans (ga93 ((m + 12)) (by omega) (by omega))).trans hm12
      have hc147 : M96 (m + 13) = some (sArr G 240 A13) := ((hf101 (m + 13) (by omega) (by omega) (by omega)).trans (ga93 ((m + 13)) (by omega) (by omega))).trans hm13
      have hc148 : M96 (m + 14) = some (sArr G 574 A14) := ((hf101 (m + 14) (by omega) (by omega) (by omega)).trans (ga93 ((m + 14)) (by omega) (by omega))).trans hm14
      have hc149 : M96 (m + 15) = some (sArr G 200 T2) := ((hf101 (m + 15) (by omega) (by omega) (by omega)).trans (ga93 ((m + 15)) (by omega) (by omega))).trans hm15
      have hc150 : M96 o = some (sArL G 1 g0) := (gb126 o (by omega)).trans hc20
      exact W.widen (by omega) (by omega) (hk _ _ _ _ _ (by omega) ⟨_, _, _, _, _, _, _, _, _, _, _, _, _, _, _, _, _, _, _, _, _, _, _, _, _, _, hc125, hc127, hc128, hc129, hc130, hc131, hc132, hc133, hc134, hc135, hc136, hc110, hc111, hc112, hc137, hc138, hc139, hc140, hc141, hc142, hc143, hc144, hc145, hc146, hc147, hc148, hc149, hc150, lF_s hlF, htp, hwr⟩ hV (lv_sub hl [2, 3, 4, 5, 6] rfl))
    · rw [ez114]
      exact (nx_setLight_1_2 c15 c113).elim
    · rw [ez119]
      exact (nx_setLight_1_3 c15 c118).elim
  · rw [ez22]
    refine lv_istore (lv' := [(5, .int (sI 3)), (0, .ref z), (1, .ref c), (2, .ref m), (3, .ref o), (4, .int (sI i))]) hx_ hb_ dL_law_2151 hl (by decide) rfl (fun ls hl => ?_)
    refine lv_aload_n hx_ hb_ dL_law_2153 rfl (lv_at hl 3 rfl) ?_
    refine lv_aload_n hx_ hb_ dL_law_2154 rfl (lv_at hl 1 rfl) ?_
    refine lv_iload hx_ hb_ dL_law_2155 (lv_at hl 5 rfl) ?_
    refine si_const S dL_law_2157 ?_
    refine si_add S dL_law_2158 ?_
    refine sc_sld S hV hX hzb (by omega) dL_law_2159 ?_
    refine lv_aload_n hx_ hb_ dL_law_2160 rfl (lv_at hl 1 rfl) ?_
    refine lv_iload hx_ hb_ dL_law_2161 (lv_at hl 5 rfl) ?_
    refine si_const S dL_law_2163 ?_
    refine si_add S dL_law_2164 ?_
    refine sc_sld S hV hX hzb (by omega) dL_law_2165 ?_
    have ga152 : ∀ x : Nat, m ≤ x → x < m + 16 → M1 x = M x := fun x u1 u2 => hf7 x (by omega) (by omega) (by omega) (by omega) (by omega)
    have hc151 : M1 m = some (mO m th ch tn te sn nm wn) := (ga152 m (by omega) (by omega)).trans hm0
    have hc153 : M1 (m + 1) = some (sArr G 574 f) := (ga152 ((m + 1)) (by omega) (by omega)).trans hm1
    have hc154 : svC G M1 (m + 2) ch fs := hsv.fr (fun x q8 q9 => ga152 x (by omega) (by omega))
    refine sk_Vi E hV (As := [.int (sI (lX xs (i + 1))), .int (sI (lX xs (i + 2)))]) (rest := []) (kX11_setLight l_ G b_ M1 N2 m th ch tn te sn nm wn f fs (lX xs (i + 1)) (lX xs (i + 2)) hc151 hc153 hc154 (hok) (hchr) (⟨lX_r xs _, lX_r xs _⟩)) (cwV 2 S.2.2.2.2 gL_law_X11_setLight rfl rfl rfl (by decide +kernel) ⟨Nat.le_of_ble_eq_true rfl, Nat.le_of_ble_eq_true rfl⟩) (ci := 9) hc151 rfl rfl rfl hl.1 (Nat.le_of_ble_eq_true rfl) dL_law_2166 (c1 := cc_ + 25) (s1 := ss_ + 3000) ⟨⟨rfl, rfl⟩, by omega, by omega⟩ (fun z158 M155 N156 H locs hp157 hV => ?_)
    obtain ⟨hN159, hf160, hq161⟩ := hp157
    rw [hN159] at hV
    rcases hq161 with ⟨c162, ez163, hc164, hc165, hc166⟩ | ⟨c167, ez168, hc169, hc170, hc171⟩ | ⟨c172, ez173, hc174, hc175, hc176⟩ | ⟨c177, ez178, hc179, hc180, hc181⟩
    · rw [ez163]
      exact (nx_setLight_2_0 c21 c162).elim
    · rw [ez168]
      exact (nx_setLight_2_1 c21 c167).elim
    · rw [ez173]
      refine lv_istore (lv' := [(6, .int (sI 0)), (5, .int (sI 3)), (0, .ref z), (1, .ref c), (2, .ref m), (3, .ref o), (4, .int (sI i))]) hx_ hb_ dL_law_2169 hl (by decide) rfl (fun ls hl => ?_)
      refine lv_aload_n hx_ hb_ dL_law_2171 rfl (lv_at hl 4 rfl) ?_
      refine sk_VP E hV (As := []) (rest := []) (kX11_thrown l_ G b_ M155 N2 m 3 ch tn te sn nm wn hc174) (cwV 0 S.2.2.2.2 gL_law_X11_thrown rfl rfl rfl (by decide +kernel) ⟨Nat.le_of_ble_eq_true rfl, Nat.le_of_ble_eq_true rfl⟩) (ci := 9) hc174 rfl rfl rfl hl.1 (Nat.le_of_ble_eq_true rfl) dL_law_2172 (c1 := cc_ + 25) (s1 := ss_ + 3000) ⟨⟨rfl, rfl⟩, by omega, by omega⟩ (fun H locs hV => ?_)
      refine lv_iload hx_ hb_ dL_law_2175 (lv_at hl 1 rfl) ?_
      refine sb_eq (tgt := 2182) S dL_law_2177 (by decide) (by omega) (fun _ => ?_) (fun c182 => absurd c182 (by omega))
      refine lv_iload hx_ hb_ dL_law_2182 (lv_at hl 1 rfl) ?_
      refine sz_ne (tgt := 2199) S dL_law_2184 (by decide) (by omega) (fun _ => ?_) (fun c183 => absurd c183 (by omega))
      refine lv_goto (tgt := 2853) hx_ hb_ dL_law_2199 (by decide) ?_
      have gb185 : ∀ x : Nat, (x < m ∨ m + 16 ≤ x) → M155 x = M1 x := fun x u1 => hf160 x (by omega) (by omega) (by omega)
      have hc184 : M155 c = some (xO c kn15 ch) := (gb185 c (by omega)).trans hc23
      have hc186 : stC G M155 (c + 1) f := hc24.fr (fun x q8 q9 => gb185 x (by omega))
      have hc187 : triC G M155 (c + 16) := htr.fr (fun x q8 q9 => (gb185 x (by omega)).trans (hf7 x (by omega) (by omega) (by omega) (by omega) (by omega)))
      have hc188 : kpC G M155 (c + 31) kb kn15 ch fs := hc25.fr (fun x q8 => gb185 x (by omega))
      have hc189 : M155 (c + 32) = some (sObj 7 [.ref (c + 33), .int (sI tn), .int (sI te)]) := ((gb185 ((c + 32)) (by omega)).trans (hf7 (c + 32) (by omega) (by omega) (by omega) (by omega) (by omega))).trans ht0
      have hc190 : M155 (c + 33) = some (sArr G 300 t) := ((gb185 ((c + 33)) (by omega)).trans (hf7 (c + 33) (by omega) (by omega) (by omega) (by omega) (by omega))).trans ht1
      have hc191 : catC G M155 (c + 34) wc T := hct.fr (fun x q8 q9 => (gb185 x (by omega)).trans (hf7 x (by omega) (by omega) (by omega) (by omega) (by omega)))
      have hc192 : orfC G M155 (c + 38) := hft.fr (fun x q8 q9 => (gb185 x (by omega)).trans (hf7 x (by omega) (by omega) (by omega) (by omega) (by omega)))
      have hc193 : layC G M155 (c + 48) := hly.fr (fun x q8 q9 => (gb185 x (by omega)).trans (hf7 x (by omega) (by omega) (by omega) (by omega) (by omega)))
      have hc194 : knoC G M155 (c + 54) := hkn.fr (fun x q8 q9 => (gb185 x (by omega)).trans (hf7 x (by omega) (by omega) (by omega) (by omega) (by omega)))
      have hc195 : excC G M155 (c + 57) := hex.fr (fun x q8 q9 => (gb185 x (by omega)).trans (hf7 x (by omega) (by omega) (by omega) (by omega) (by omega)))
      have hc196 : M155 (m + 3) = some (sArr G 300 t) := ((hf160 (m + 3) (by omega) (by omega) (by omega)).trans (ga152 ((m + 3)) (by omega) (by omega))).trans hm3
      have hc197 : M155 (m + 4) = some (sArr G 11 A4) := ((hf160 (m + 4) (by omega) (by omega) (by omega)).trans (ga152 ((m + 4)) (by omega) (by omega))).trans hm4
      have hc198 : M155 (m + 5) = some (sArr G 1024 A5) := ((hf160 (m + 5) (by omega) (by omega) (by omega)).trans (ga152 ((m + 5)) (by omega) (by omega))).trans hm5
      have hc199 : M155 (m + 6) = some (sArr G 1024 A6) := ((hf160 (m + 6) (by omega) (by omega) (by omega)).trans (ga152 ((m + 6)) (by omega) (by omega))).trans hm6
      have hc200 : M155 (m + 7) = some (sArr G 10 A7) := ((hf160 (m + 7) (by omega) (by omega) (by omega)).trans (ga152 ((m + 7)) (by omega) (by omega))).trans hm7
      have hc201 : M155 (m + 8) = some (sArr G 10 A8) := ((hf160 (m + 8) (by omega) (by omega) (by omega)).trans (ga152 ((m + 8)) (by omega) (by omega))).trans hm8
      have hc202 : M155 (m + 9) = some (sArr G 62 A9) := ((hf160 (m + 9) (by omega) (by omega) (by omega)).trans (ga152 ((m + 9)) (by omega) (by omega))).trans hm9
      have hc203 : M155 (m + 10) = some (sArr G 8 A10) := ((hf160 (m + 10) (by omega) (by omega) (by omega)).trans (ga152 ((m + 10)) (by omega) (by omega))).trans hm10
      have hc204 : M155 (m + 11) = some (sArr G 8 A11) := ((hf160 (m + 11) (by omega) (by omega) (by omega)).trans (ga152 ((m + 11)) (by omega) (by omega))).trans hm11
      have hc205 : M155 (m + 12) = some (sArr G 60 A12) := ((hf160 (m + 12) (by omega) (by omega) (by omega)).trans (ga152 ((m + 12)) (by omega) (by omega))).trans hm12
      have hc206 : M155 (m + 13) = some (sArr G 240 A13) := ((hf160 (m + 13) (by omega) (by omega) (by omega)).trans (ga152 ((m + 13)) (by omega) (by omega))).trans hm13
      have hc207 : M155 (m + 14) = some (sArr G 574 A14) := ((hf160 (m + 14) (by omega) (by omega) (by omega)).trans (ga152 ((m + 14)) (by omega) (by omega))).trans hm14
      have hc208 : M155 (m + 15) = some (sArr G 200 T2) := ((hf160 (m + 15) (by omega) (by omega) (by omega)).trans (ga152 ((m + 15)) (by omega) (by omega))).trans hm15
      have hc209 : M155 o = some (sArL G 1 g0) := (gb185 o (by omega)).trans hc26
      exact W.widen (by omega) (by omega) (hk _ _ _ _ _ (by omega) ⟨_, _, _, _, _, _, _, _, _, _, _, _, _, _, _, _, _, _, _, _, _, _, _, _, _, _, hc184, hc186, hc187, hc188, hc189, hc190, hc191, hc192, hc193, hc194, hc195, hc174, hc175, hc176, hc196, hc197, hc198, hc199, hc200, hc201, hc202, hc203, hc204, hc205, hc206, hc207, hc208, hc209, lF_s hlF, htp, hwr⟩ hV (lv_sub hl [2, 3, 4, 5, 6] rfl))
    · rw [ez178]
      exact (nx_setLight_2_3 c21 c177).elim
  · rw [ez28]
    refine lv_istore (lv' := [(5, .int (sI 0)), (0, .ref z), (1, .ref c), (2, .ref m), (3, .ref o), (4, .int (sI i))]) hx_ hb_ dL_law_2151 hl (by decide) rfl (fun ls hl => ?_)
    refine lv_aload_n hx_ hb_ dL_law_2153 rfl (lv_at hl 3 rfl) ?_
    refine lv_aload_n hx_ hb_ dL_law_2154 rfl (lv_at hl 1 rfl) ?_
    refine lv_iload hx_ hb_ dL_law_2155 (lv_at hl 5 rfl) ?_
    refine si_const S dL_law_2157 ?_
    refine si_add S dL_law_2158 ?_
    refine sc_sld S hV hX hzb (by omega) dL_law_2159 ?_
    refine lv_aload_n hx_ hb_ dL_law_2160 rfl (lv_at hl 1 rfl) ?_
    refine lv_iload hx_ hb_ dL_law_2161 (lv_at hl 5 rfl) ?_
    refine si_const S dL_law_2163 ?_
    refine si_add S dL_law_2164 ?_
    refine sc_sld S hV hX hzb (by omega) dL_law_2165 ?_
    have ga211 : ∀ x : Nat, m ≤ x → x < m + 16 → M1 x = M x := fun x u1 u2 => hf7 x (by omega) (by omega) (by omega) (by omega) (by omega)
    have hc210 : M1 m = some (mO m th ch tn te sn nm wn) := (ga211 m (by omega) (by omega)).trans hm0
    have hc212 : M1 (m + 1) = some (sArr G 574 f) := (ga211 ((m + 1)) (by omega) (by omega)).trans hm1
    have hc213 : svC G M1 (m + 2) ch fs := hsv.fr (fun x q8 q9 => ga211 x (by omega) (by omega))
    refine sk_Vi E hV (As := [.int (sI (lX xs (i + 1))), .int (sI (lX xs (i + 2)))]) (rest := []) (kX11_setLight l_ G b_ M1 N2 m th ch tn te sn nm wn f fs (lX xs (i + 1)) (lX xs (i + 2)) hc210 hc212 hc213 (hok) (hchr) (⟨lX_r xs _, lX_r xs _⟩)) (cwV 2 S.2.2.2.2 gL_law_X11_setLight rfl rfl rfl (by decide +kernel) ⟨Nat.le_of_ble_eq_true rfl, Nat.le_of_ble_eq_true rfl⟩) (ci := 9) hc210 rfl rfl rfl hl.1 (Nat.le_of_ble_eq_true rfl) dL_law_2166 (c1 := cc_ + 25) (s1 := ss_ + 3000) ⟨⟨rfl, rfl⟩, by omega, by omega⟩ (fun z217 M214 N215 H locs hp216 hV => ?_)
    obtain ⟨hN218, hf219, hq220⟩ := hp216
    rw [hN218] at hV
    rcases hq220 with ⟨c221, ez222, hc223, hc224, hc225⟩ | ⟨c226, ez227, hc228, hc229, hc230⟩ | ⟨c231, ez232, hc233, hc234, hc235⟩ | ⟨c236, ez237, hc238, hc239, hc240⟩
    · rw [ez222]
      exact (nx_setLight_3_0 c27 c221).elim
    · rw [ez227]
      exact (nx_setLight_3_1 c27 c226).elim
    · rw [ez232]
      exact (nx_setLight_3_2 c27 c231).elim
    · rw [ez237]
      refine lv_istore (lv' := [(6, .int (sI (f (60 + (lX xs (i + 1)))))), (5, .int (sI 0)), (0, .ref z), (1, .ref c), (2, .ref m), (3, .ref o), (4, .int (sI i))]) hx_ hb_ dL_law_2169 hl (by decide) rfl (fun ls hl => ?_)
      refine lv_aload_n hx_ hb_ dL_law_2171 rfl (lv_at hl 4 rfl) ?_
      refine sk_VP E hV (As := []) (rest := []) (kX11_thrown l_ G b_ M214 N2 m 0 (chn ch) tn te sn nm wn hc238) (cwV 0 S.2.2.2.2 gL_law_X11_thrown rfl rfl rfl (by decide +kernel) ⟨Nat.le_of_ble_eq_true rfl, Nat.le_of_ble_eq_true rfl⟩) (ci := 9) hc238 rfl rfl rfl hl.1 (Nat.le_of_ble_eq_true rfl) dL_law_2172 (c1 := cc_ + 25) (s1 := ss_ + 3000) ⟨⟨rfl, rfl⟩, by omega, by omega⟩ (fun H locs hV => ?_)
      refine lv_iload hx_ hb_ dL_law_2175 (lv_at hl 1 rfl) ?_
      refine sb_eq (tgt := 2182) S dL_law_2177 (by decide) (by omega) (fun _ => ?_) (fun c241 => absurd c241 (by omega))
      refine lv_iload hx_ hb_ dL_law_2182 (lv_at hl 1 rfl) ?_
      refine sz_ne (tgt := 2199) S dL_law_2184 (by decide) (by omega) (fun c242 => absurd c242 (by omega)) (fun _ => ?_)
      refine lv_aload_n hx_ hb_ dL_law_2187 rfl (lv_at hl 5 rfl) ?_
      refine si_const S dL_law_2188 ?_
      have gb244 : ∀ x : Nat, (x < m ∨ m + 16 ≤ x) → M214 x = M1 x := fun x u1 => hf219 x (by omega) (by omega) (by omega)
      have hc243 : M214 o = some (sArL G 1 (iup g0 0 (sW (f (60 + (lX xs (i + 1))))))) := (gb244 o (by omega)).trans hc32
      refine sc_lald S hK hV hc243 (by omega) dL_law_2189 ?_
      rw [show (iup g0 0 (sW (f (60 + (lX xs (i + 1)))))) 0 = sW (f (60 + (lX xs (i + 1)))) from if_pos rfl]
      refine lv_iload hx_ hb_ dL_law_2190 (lv_at hl 0 rfl) ?_
      refine sl_i2w S dL_law_2192 ?_
      refine sl_cmp0 S (rfl) dL_law_2193 ?_
      refine sz_eq (tgt := 2199) S dL_law_2194 (by decide) (by omega) (fun _ => ?_) (fun c245 => absurd c245 (by omega))
      refine lv_goto (tgt := 2853) hx_ hb_ dL_law_2199 (by decide) ?_
      have hc246 : M214 c = some (xO c kn15 (chn ch)) := (gb244 c (by omega)).trans hc29
      have hc247 : stC G M214 (c + 1) (slF f (lX xs (i + 1)) (lX xs (i + 2))) := hc30.fr (fun x q8 q9 => gb244 x (by omega))
      have hc248 : triC G M214 (c + 16) := htr.fr (fun x q8 q9 => (gb244 x (by omega)).trans (hf7 x (by omega) (by omega) (by omega) (by omega) (by omega)))
      have hc249 : kpC G M214 (c + 31) kb kn15 (chn ch) (fsn ch fs f) := hc31.fr (fun x q8 => gb244 x (by omega))
      have hc250 : M214 (c + 32) = some (sObj 7 [.ref (c + 33), .int (sI tn), .int (sI te)]) := ((gb244 ((c + 32)) (by omega)).trans (hf7 (c + 32) (by omega) (by omega) (by omega) (by omega) (by omega))).trans ht0
      have hc251 : M214 (c + 33) = some (sArr G 300 t) := ((gb244 ((c + 33)) (by omega)).trans (hf7 (c + 33) (by omega) (by omega) (by omega) (by omega) (by omega))).trans ht1
      have hc252 : catC G M214 (c + 34) wc T := hct.fr (fun x q8 q9 => (gb244 x (by omega)).trans (hf7 x (by omega) (by omega) (by omega) (by omega) (by omega)))
      have hc253 : orfC G M214 (c + 38) := hft.fr (fun x q8 q9 => (gb244 x (by omega)).trans (hf7 x (by omega) (by omega) (by omega) (by omega) (by omega)))
      have hc254 : layC G M214 (c + 48) := hly.fr (fun x q8 q9 => (gb244 x (by omega)).trans (hf7 x (by omega) (by omega) (by omega) (by omega) (by omega)))
      have hc255 : knoC G M214 (c + 54) := hkn.fr (fun x q8 q9 => (gb244 x (by omega)).trans (hf7 x (by omega) (by omega) (by omega) (by omega) (by omega)))
      have hc256 : excC G M214 (c + 57) := hex.fr (fun x q8 q9 => (gb244 x (by omega)).trans (hf7 x (by omega) (by omega) (by omega) (by omega) (by omega)))
      have hc257 : M214 (m + 3) = some (sArr G 300 t) := ((hf219 (m + 3) (by omega) (by omega) (by omega)).trans (ga211 ((m + 3)) (by omega) (by omega))).trans hm3
      have hc258 : M214 (m + 4) = some (sArr G 11 A4) := ((hf219 (m + 4) (by omega) (by omega) (by omega)).trans (ga211 ((m + 4)) (by omega) (by omega))).trans hm4
      have hc259 : M214 (m + 5) = some (sArr G 1024 A5) := ((hf219 (m + 5) (by omega) (by omega) (by omega)).trans (ga211 ((m + 5)) (by omega) (by omega))).trans hm5
      have hc260 : M214 (m + 6) = some (sArr G 1024 A6) := ((hf219 (m + 6) (by omega) (by omega) (by omega)).trans (ga211 ((m + 6)) (by omega) (by omega))).trans hm6
      have hc261 : M214 (m + 7) = some (sArr G 10 A7) := ((hf219 (m + 7) (by omega) (by omega) (by omega)).trans (ga211 ((m + 7)) (by omega) (by omega))).trans hm7
      have hc262 : M214 (m + 8) = some (sArr G 10 A8) := ((hf219 (m + 8) (by omega) (by omega) (by omega)).trans (ga211 ((m + 8)) (by omega) (by omega))).trans hm8
      have hc263 : M214 (m + 9) = some (sArr G 62 A9) := ((hf219 (m + 9) (by omega) (by omega) (by omega)).trans (ga211 ((m + 9)) (by omega) (by omega))).trans hm9
      have hc264 : M214 (m + 10) = some (sArr G 8 A10) := ((hf219 (m + 10) (by omega) (by omega) (by omega)).trans (ga211 ((m + 10)) (by omega) (by omega))).trans hm10
      have hc265 : M214 (m + 11) = some (sArr G 8 A11) := ((hf219 (m + 11) (by omega) (by omega) (by omega)).trans (ga211 ((m + 11)) (by omega) (by omega))).trans hm11
      have hc266 : M214 (m + 12) = some (sArr G 60 A12) := ((hf219 (m + 12) (by omega) (by omega) (by omega)).trans (ga211 ((m + 12)) (by omega) (by omega))).trans hm12
      have hc267 : M214 (m + 13) = some (sArr G 240 A13) := ((hf219 (m + 13) (by omega) (by omega) (by omega)).trans (ga211 ((m + 13)) (by omega) (by omega))).trans hm13
      have hc268 : M214 (m + 14) = some (sArr G 574 A14) := ((hf219 (m + 14) (by omega) (by omega) (by omega)).trans (ga211 ((m + 14)) (by omega) (by omega))).trans hm14
      have hc269 : M214 (m + 15) = some (sArr G 200 T2) := ((hf219 (m + 15) (by omega) (by omega) (by omega)).trans (ga211 ((m + 15)) (by omega) (by omega))).trans hm15
      exact W.widen (by omega) (by omega) (hk _ _ _ _ _ (by omega) ⟨_, _, _, _, _, _, _, _, _, _, _, _, _, _, _, _, _, _, _, _, _, _, _, _, _, _, hc246, hc247, hc248, hc249, hc250, hc251, hc252, hc253, hc254, hc255, hc256, hc238, hc239, hc240, hc257, hc258, hc259, hc260, hc261, hc262, hc263, hc264, hc265, hc266, hc267, hc268, hc269, hc243, lF_k hchr hlF (g_sl hlF.1 (by omega) (by omega) c27.2.2), htp, hwr⟩ hV (lv_sub hl [2, 3, 4, 5, 6] rfl))
